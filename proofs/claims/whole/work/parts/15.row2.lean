/-! ROW: the walks with loops -/
theorem gz_pred {n : Nat} (h : 1 ≤ n) : nI n - 1 = nI (n - 1) := pk_sub (a := n) (b := 1) h
theorem cb_X5_fill__X5_append : gCb yX5_append cX5_append 2 none wsX5_append (gR 0) (gR 1) 0 0 1 := ⟨rfl, rfl, rfl, by decide +kernel, by decide⟩
set_option maxRecDepth 20000 in
theorem in_X5_fill_X5 : ∀ w ∈ wsX50, w ∈ wsX5_fill := by decide +kernel
set_option maxRecDepth 20000 in
theorem fd_X5_fill_13 : gFd wsX5_fill RX5 13 4 RX5 TX5 2 1 := ⟨in_X5_fill_X5, rfl, by decide, by decide +kernel⟩
set_option maxRecDepth 20000 in
theorem in_X5_copyFrom_X5 : ∀ w ∈ wsX50, w ∈ wsX5_copyFrom := by decide +kernel
set_option maxRecDepth 20000 in
theorem fd_X5_copyFrom_13 : gFd wsX5_copyFrom RX5 13 4 RX5 TX5 2 1 := ⟨in_X5_copyFrom_X5, rfl, by decide, by decide +kernel⟩
set_option maxRecDepth 20000 in
theorem fd_X5_copyFrom_7 : gFd wsX5_copyFrom RX5 7 4 RX5 TX5 2 0 := ⟨in_X5_copyFrom_X5, rfl, by decide, by decide +kernel⟩
set_option maxRecDepth 20000 in
theorem in_X5_remove_X5 : ∀ w ∈ wsX50, w ∈ wsX5_remove := by decide +kernel
set_option maxRecDepth 20000 in
theorem fd_X5_remove_13 : gFd wsX5_remove RX5 13 4 RX5 TX5 2 1 := ⟨in_X5_remove_X5, rfl, by decide, by decide +kernel⟩
theorem cb_X5_remove__X5_get : gCb yX5_get cX5_get 2 (some .int) wsX5_get (gR 1) (gR 2) 0 0 1 := ⟨rfl, rfl, rfl, by decide +kernel, by decide⟩
theorem cb_X5_remove__X5_set : gCb yX5_set cX5_set 3 none wsX5_set (gR 1) (gR 2) 0 0 2 := ⟨rfl, rfl, rfl, by decide +kernel, by decide⟩
theorem cb_X5_remove__X5_hasNot : gCb yX5_hasNot cX5_hasNot 2 (some .boolean) wsX5_hasNot (gR 0) (gR 2) 0 0 1 := ⟨rfl, rfl, rfl, by decide +kernel, by decide⟩
theorem cb_X5_insert__X5_set : gCb yX5_set cX5_set 3 none wsX5_set (gR 1) (gR 2) 0 0 2 := ⟨rfl, rfl, rfl, by decide +kernel, by decide⟩
theorem cb_X5_insert__X5_get : gCb yX5_get cX5_get 2 (some .int) wsX5_get (gR 1) (gR 2) 0 0 1 := ⟨rfl, rfl, rfl, by decide +kernel, by decide⟩
set_option maxRecDepth 20000 in
theorem in_X5_insert_X5 : ∀ w ∈ wsX50, w ∈ wsX5_insert := by decide +kernel
set_option maxRecDepth 20000 in
theorem fd_X5_insert_13 : gFd wsX5_insert RX5 13 4 RX5 TX5 2 1 := ⟨in_X5_insert_X5, rfl, by decide, by decide +kernel⟩
set_option maxRecDepth 20000 in
theorem fd_X5_insert_7 : gFd wsX5_insert RX5 7 4 RX5 TX5 2 0 := ⟨in_X5_insert_X5, rfl, by decide, by decide +kernel⟩
theorem cb_X5_insert__X5_append : gCb yX5_append cX5_append 2 none wsX5_append (gR 0) (gR 2) 0 0 1 := ⟨rfl, rfl, rfl, by decide +kernel, by decide⟩
set_option maxHeartbeats 4000000 in
set_option maxRecDepth 100000 in
/-- Row.fill -/
theorem k5_fill (l : Launch) (D : gD) (A : Nat → Prop) (hs : Nat) {G : gH} {r cap : Nat} {xs : List Int32} (mn : Nat) (v : Int32) (hr : gRow D G r cap xs) (hm : mn ≤ cap) : gM l yX5_fill wsX5_fill (gR 1) D A hs 0 0 [.ref r, .int (nI mn), .int v] G (gPv fun G' => gRow D G' r cap (List.replicate mn v) ∧ gOut r 2 G G') := by
  refine gM_intro (by decide) rfl rfl (Nat.le_of_ble_eq_true rfl) ?_
  intro p e s m args below meth c C
  obtain ⟨f, h1, h2, h3, h4, h5⟩ := id hr
  have hloop : ∀ (n j : Nat) (G1 : gH), mn < j + n → j ≤ mn → gRow D G1 r cap (List.replicate j v) ∧ gOut r 2 G G1 → gX p l e (gR 1) s m args below meth c D A 4 hs 0 0 (MQ below (gQ D A hs 0 (gPv fun G' => gRow D G' r cap (List.replicate mn v) ∧ gOut r 2 G G')) args s 0 0 A) G1 [some (.ref r), some (.int (nI mn)), some (.int v), some (.int (nI j))] 7 [] := by
    intro n
    induction n with
    | zero => intro j G1 hm hj0 hI; exact absurd hm (by omega)
    | succ n ih =>
      intro j G1 hm hj0 hI
      refine gx_iload_n C dX5_fill_7 rfl ?_
      refine gx_iload_n C dX5_fill_8 rfl ?_
      refine gx_icmp_ge (tgt := 23) C dX5_fill_9 (by decide) (fun c_9 => ?_) (fun c_9 => ?_)
      · have hj : ¬ j < mn := fun q => nI_ge q (by omega) c_9
        refine gx_vret (mc := 0) C ?_ dX5_fill_23
        have e : j = mn := by omega
        subst e
        exact ⟨rfl, hI⟩
      · have hj : j < mn := by
          rcases Nat.lt_or_ge (j) (mn) with q | q
          · exact q
          · exact absurd (nI_le q (by omega)) c_9
        refine gx_aload_n C dX5_fill_12 rfl ?_
        refine gx_iload_n C dX5_fill_13 rfl ?_
        refine gx_callV (ci := 4) (T := TX5) (N := 2) C (k5_append l D A hs v hI.1) cb_X5_fill__X5_append gX5_fill_X5_append rfl (hG := (gRow_ob hI.1)) rfl rfl (Nat.le_of_ble_eq_true rfl) ⟨Nat.le_refl _, Nat.le_refl _⟩ dX5_fill_14 (gx_kv fun G_14 h_14 => ?_)
        first | refine gx_iincN C dX5_fill_17 rfl (by decide) ?_ | refine gx_iinc1 C dX5_fill_17 rfl (by decide) ?_
        refine gx_goto (tgt := 7) C dX5_fill_20 (by decide) ?_
        have h := h_14.1
        rw [lapp, if_pos (by rw [List.length_replicate]; omega)] at h
        refine gx_V ?_ (ih (j + 1) G_14 (by omega) (by omega) ⟨?_, gOut_tr hI.2 h_14.2⟩)
        · simp [List.set, ← nI_1]
        · rw [List.replicate_succ']
          exact h
  refine gx_aload_n C dX5_fill_0 rfl ?_
  refine gx_iconst (v := 0) C dX5_fill_1 (by decide) ?_
  refine gx_put C fd_X5_fill_13 tyX5_ok nmX5 rfl rfl rfl (hG := h1) (hl := by exact Nat.le_of_ble_eq_true rfl) dX5_fill_2 ?_
  refine gx_iconst (v := 0) C dX5_fill_5 (by decide) ?_
  refine gx_istore_n C dX5_fill_6 (by decide) ?_
  exact hloop (mn + 1) 0 _ (by omega) (by omega) ⟨gRow_mk gU_s (by rw [gU_n (by omega)]; exact h2) rfl (Nat.zero_le _) h4 (fun i h => absurd h (by simp)), gOut_up gOut_rf (by omega)⟩
set_option maxHeartbeats 4000000 in
set_option maxRecDepth 100000 in
/-- Row.copyFrom -/
theorem k5_copyFrom (l : Launch) (D : gD) (A : Nat → Prop) (hs : Nat) {G : gH} {r cap r2 cap2 : Nat} {xs ys : List Int32} (hr : gRow D G r cap xs) (hr2 : gRow D G r2 cap2 ys) (hd : r2 + 2 ≤ r ∨ r + 2 ≤ r2) (hl : ys.length ≤ cap) : gM l yX5_copyFrom wsX5_copyFrom (gR 0) D A hs 0 0 [.ref r, .ref r2] G (gPv fun G' => gRow D G' r cap ys ∧ gOut r 2 G G') := by
  refine gM_intro (by decide) rfl rfl (Nat.le_of_ble_eq_true rfl) ?_
  intro p e s m args below meth c C
  obtain ⟨f, h1, h2, h3, h4, h5⟩ := id hr
  have hb2 := gRow_le hr2
  have hloop : ∀ (n j : Nat) (G1 : gH), ys.length < j + n → j ≤ ys.length → gRow D G1 r cap (ys.take j) ∧ gOut r 2 G G1 → gX p l e (gR 0) s m args below meth c D A 3 hs 0 0 (MQ below (gQ D A hs 0 (gPv fun G' => gRow D G' r cap ys ∧ gOut r 2 G G')) args s 0 0 A) G1 [some (.ref r), some (.ref r2), some (.int (nI j))] 7 [] := by
    intro n
    induction n with
    | zero => intro j G1 hm hj0 hI; exact absurd hm (by omega)
    | succ n ih =>
      intro j G1 hm hj0 hI
      refine gx_iload_n C dX5_copyFrom_7 rfl ?_
      have hs2 := gRow_fr hr2 hI.2 hd
      obtain ⟨f2, e1, e2, e3, e4, e5⟩ := id hs2
      obtain ⟨f1, d1, d2, d3, d4, d5⟩ := id hI.1
      refine gx_aload_n C dX5_copyFrom_8 rfl ?_
      refine gx_get C fd_X5_copyFrom_13 (hG := (gRow_ob hs2)) (hv := by rfl) dX5_copyFrom_9 ?_
      refine gx_icmp_ge (tgt := 58) C dX5_copyFrom_12 (by decide) (fun c_12 => ?_) (fun c_12 => ?_)
      · have hj : ¬ j < ys.length := fun q => nI_ge q (by omega) c_12
        refine gx_vret (mc := 0) C ?_ dX5_copyFrom_58
        have e : j = ys.length := by omega
        exact ⟨rfl, by rw [e, List.take_length] at hI; exact hI⟩
      · have hj : j < ys.length := by
          rcases Nat.lt_or_ge (j) (ys.length) with q | q
          · exact q
          · exact absurd (nI_le q (by omega)) c_12
        refine gx_iload_n C dX5_copyFrom_15 rfl ?_
        refine gx_aload_n C dX5_copyFrom_16 rfl ?_
        refine gx_get C fd_X5_copyFrom_7 (hG := e1) (hv := by rfl) dX5_copyFrom_17 ?_
        refine gx_alen (t0 := 0) C (hG := e2) (ht := by rfl) (hv := by rfl) dX5_copyFrom_20 ?_
        refine gx_icmp_ge (tgt := 58) C dX5_copyFrom_21 (by decide) (fun c_21 => ?_) (fun c_21 => ?_)
        · exact absurd c_21 (nI_ge (by omega) (by omega))
        · refine gx_iload_n C dX5_copyFrom_24 rfl ?_
          refine gx_aload_n C dX5_copyFrom_25 rfl ?_
          refine gx_get C fd_X5_copyFrom_7 (hG := d1) (hv := by rfl) dX5_copyFrom_26 ?_
          refine gx_alen (t0 := 0) C (hG := d2) (ht := by rfl) (hv := by rfl) dX5_copyFrom_29 ?_
          refine gx_icmp_ge (tgt := 58) C dX5_copyFrom_30 (by decide) (fun c_30 => ?_) (fun c_30 => ?_)
          · exact absurd c_30 (nI_ge (by omega) (by omega))
          · refine gx_aload_n C dX5_copyFrom_33 rfl ?_
            refine gx_get C fd_X5_copyFrom_7 (hG := d1) (hv := by rfl) dX5_copyFrom_34 ?_
            refine gx_iload_n C dX5_copyFrom_37 rfl ?_
            refine gx_aload_n C dX5_copyFrom_38 rfl ?_
            refine gx_get C fd_X5_copyFrom_7 (hG := e1) (hv := by rfl) dX5_copyFrom_39 ?_
            refine gx_iload_n C dX5_copyFrom_42 rfl ?_
            refine gx_iald C (hG := e2) (hin := vp_in_nI (by omega) (by omega)) dX5_copyFrom_43 ?_
            refine gx_iast C (hG := d2) (hin := vp_in_nI (by omega) (by omega)) dX5_copyFrom_44 ?_
            refine gx_aload_n C dX5_copyFrom_45 rfl ?_
            refine gx_iload_n C dX5_copyFrom_46 rfl ?_
            refine gx_iconst (v := 1) C dX5_copyFrom_47 (by decide) ?_
            refine gx_iadd C dX5_copyFrom_48 ?_
            refine gx_put C fd_X5_copyFrom_13 tyX5_ok nmX5 rfl rfl rfl (hG := (by rw [gU_n (by omega)]; exact d1)) (hl := by exact Nat.le_of_ble_eq_true rfl) dX5_copyFrom_49 ?_
            first | refine gx_iincN C dX5_copyFrom_52 rfl (by decide) ?_ | refine gx_iinc1 C dX5_copyFrom_52 rfl (by decide) ?_
            refine gx_goto (tgt := 7) C dX5_copyFrom_55 (by decide) ?_
            refine gx_V ?_ (ih (j + 1) _ (by omega) (by omega) ⟨?_, gOut_tr hI.2 (gOut_up (gOut_up gOut_rf (by omega)) (by omega))⟩)
            · simp [List.set, ← nI_1]
            · refine gRow_mk gU_s (by rw [gU_n (by omega)]; exact gU_s) (by rw [List.length_take, Nat.min_eq_left (by omega)]; exact nI_1 j) (by rw [List.length_take]; omega) h4 ?_
              intro i hx
              rw [List.length_take] at hx
              rw [List.getElem_take, nI_clamp (by omega)]
              by_cases q : i = j
              · subst q
                rw [← e5 i hj]; simp [upd]
              · have q3 : i < (ys.take j).length := by rw [List.length_take]; omega
                have q2 := d5 i q3
                rw [List.getElem_take] at q2
                rw [← q2]; simp [upd, q]
  refine gx_aload_n C dX5_copyFrom_0 rfl ?_
  refine gx_iconst (v := 0) C dX5_copyFrom_1 (by decide) ?_
  refine gx_put C fd_X5_copyFrom_13 tyX5_ok nmX5 rfl rfl rfl (hG := h1) (hl := by exact Nat.le_of_ble_eq_true rfl) dX5_copyFrom_2 ?_
  refine gx_iconst (v := 0) C dX5_copyFrom_5 (by decide) ?_
  refine gx_istore_n C dX5_copyFrom_6 (by decide) ?_
  exact hloop (ys.length + 1) 0 _ (by omega) (by omega) ⟨gRow_mk gU_s (by rw [gU_n (by omega)]; exact h2) rfl (Nat.zero_le _) h4 (fun i h => absurd h (by simp)), gOut_up gOut_rf (by omega)⟩
set_option maxHeartbeats 4000000 in
set_option maxRecDepth 100000 in
/-- Row.remove -/
theorem k5_remove (l : Launch) (D : gD) (A : Nat → Prop) (hs : Nat) {G : gH} {r cap : Nat} {xs : List Int32} (i : Nat) (hr : gRow D G r cap xs) (hi : i < xs.length) : gM l yX5_remove wsX5_remove (gR 2) D A hs 0 0 [.ref r, .int (nI i)] G (gPv fun G' => gRow D G' r cap (lrem xs (nI i)) ∧ gOut r 2 G G') := by
  refine gM_intro (by decide) rfl rfl (Nat.le_of_ble_eq_true rfl) ?_
  intro p e s m args below meth c C
  obtain ⟨f, h1, h2, h3, h4, h5⟩ := id hr
  have hloop : ∀ (n j : Nat) (G1 : gH) (ys : List Int32), xs.length < j + n → j ≤ xs.length ∧ i ≤ j → (gRow D G1 r cap ys ∧ gOut r 2 G G1) ∧ ys.length = xs.length ∧ (∀ (a : Nat) (ha : a < ys.length), (a < i ∨ j ≤ a → ys[a] = xs.getD a 0) ∧ (i ≤ a → a < j → ys[a] = xs.getD (a + 1) 0)) → gX p l e (gR 2) s m args below meth c D A 3 hs 0 0 (MQ below (gQ D A hs 0 (gPv fun G' => gRow D G' r cap (lrem xs (nI i)) ∧ gOut r 2 G G')) args s 0 0 A) G1 [some (.ref r), some (.int (nI i)), some (.int (nI j))] 11 [] := by
    intro n
    induction n with
    | zero => intro j G1 ys hm hj0 hI; exact absurd hm (by omega)
    | succ n ih =>
      intro j G1 ys hm hj0 hI
      refine gx_iload_n C dX5_remove_11 rfl ?_
      refine gx_aload_n C dX5_remove_12 rfl ?_
      refine gx_get C fd_X5_remove_13 (hG := (gRow_ob hI.1.1)) (hv := by rfl) dX5_remove_13 ?_
      refine gx_iconst (v := 1) C dX5_remove_16 (by decide) ?_
      refine gx_isub C dX5_remove_17 ?_
      refine gx_icmp_ge (tgt := 39) C dX5_remove_18 (by decide) (fun c_18 => ?_) (fun c_18 => ?_)
      · rw [hI.2.1] at c_18
        have hj : ¬ j + 1 < xs.length := fun q => by
          rw [show (nI xs.length - 1 : Int32) = nI (xs.length - 1) from gz_pred (by omega)] at c_18
          exact nI_ge (by omega) (by omega) c_18
        refine gx_aload_n C dX5_remove_39 rfl ?_
        refine gx_dup C dX5_remove_40 rfl ?_
        refine gx_get C fd_X5_remove_13 (hG := (gRow_ob hI.1.1)) (hv := by rfl) dX5_remove_41 ?_
        refine gx_iconst (v := 1) C dX5_remove_44 (by decide) ?_
        refine gx_isub C dX5_remove_45 ?_
        refine gx_put C fd_X5_remove_13 tyX5_ok nmX5 rfl rfl rfl (hG := (gRow_ob hI.1.1)) (hl := by exact Nat.le_of_ble_eq_true rfl) dX5_remove_46 ?_
        refine gx_vret (mc := 0) C ?_ dX5_remove_49
        obtain ⟨⟨hI1, hI2⟩, hz, hv⟩ := hI
        obtain ⟨f1, d1, d2, d3, d4, d5⟩ := id hI1
        refine ⟨rfl, ?_, gOut_up hI2 (by omega)⟩
        have hlen : (xs.eraseIdx i).length = xs.length - 1 := by rw [List.length_eraseIdx, if_pos hi]
        rw [lrem, gIn_nI (by omega), if_pos (by simpa using hi), nI_clamp (by omega)]
        refine gRow_mk gU_s (by rw [gU_n (by omega)]; exact d2) (by rw [hlen, hz]; exact gz_pred (by omega)) (by omega) h4 ?_
        intro a ha
        rw [hlen] at ha
        rw [d5 a (by omega)]
        have := hv a (by omega)
        rw [List.getElem_eraseIdx]
        by_cases q : a < i
        · rw [dif_pos q, this.1 (by omega)]; simp [show a < xs.length by omega]
        · rw [dif_neg q, this.2 (by omega) (by omega)]; simp [show a + 1 < xs.length by omega]
      · rw [hI.2.1] at c_18
        have hj : j + 1 < xs.length := by
          rcases Nat.lt_or_ge (j + 1) xs.length with q | q
          · exact q
          · rw [show (nI xs.length - 1 : Int32) = nI (xs.length - 1) from gz_pred (by omega)] at c_18
            exact absurd (nI_le (by omega) (by omega)) c_18
        refine gx_aload_n C dX5_remove_21 rfl ?_
        refine gx_iload_n C dX5_remove_22 rfl ?_
        refine gx_aload_n C dX5_remove_23 rfl ?_
        refine gx_iload_n C dX5_remove_24 rfl ?_
        refine gx_iconst (v := 1) C dX5_remove_25 (by decide) ?_
        refine gx_iadd C dX5_remove_26 ?_
        refine gx_top (nI_1 j) ?_
        refine gx_callV (ci := 4) (T := TX5) (N := 2) C (k5_get l D A hs (nI (j + 1)) hI.1.1) cb_X5_remove__X5_get gX5_remove_X5_get rfl (hG := (gRow_ob hI.1.1)) rfl rfl (Nat.le_of_ble_eq_true rfl) ⟨Nat.le_refl _, Nat.le_refl _⟩ dX5_remove_27 (gx_ki fun r_27 G_27 h_27 => ?_)
        obtain ⟨rfl, rfl⟩ := h_27
        refine gx_callV (ci := 4) (T := TX5) (N := 2) C (k5_set l D A hs (nI j) (lget ys (nI (j + 1))) hI.1.1) cb_X5_remove__X5_set gX5_remove_X5_set rfl (hG := (gRow_ob hI.1.1)) rfl rfl (Nat.le_of_ble_eq_true rfl) ⟨Nat.le_refl _, Nat.le_refl _⟩ dX5_remove_30 (gx_kv fun G_30 h_30 => ?_)
        first | refine gx_iincN C dX5_remove_33 rfl (by decide) ?_ | refine gx_iinc1 C dX5_remove_33 rfl (by decide) ?_
        refine gx_goto (tgt := 11) C dX5_remove_36 (by decide) ?_
        have hd := h_30
        rw [lget_nI (by omega), lset_nI (by omega)] at hd
        obtain ⟨⟨hI1, hI2⟩, hz, hv⟩ := hI
        refine gx_V ?_ (ih (j + 1) _ _ (by omega) (by omega) ⟨⟨hd.1, gOut_tr hI2 hd.2⟩, by rw [List.length_set]; exact hz, ?_⟩)
        · simp [List.set, ← nI_1]
        · intro a ha
          rw [List.length_set] at ha
          constructor
          · intro q
            rw [List.getElem_set_ne (by omega)]
            exact (hv a (by omega)).1 (by omega)
          · intro q1 q2
            by_cases q : j = a
            · subst q
              rw [List.getElem_set_self]
              have h2 := (hv (j + 1) (by omega)).1 (by omega)
              simp [hz, hj, h2]
            · rw [List.getElem_set_ne q]
              exact (hv a (by omega)).2 (by omega) (by omega)
  refine gx_aload_n C dX5_remove_0 rfl ?_
  refine gx_iload_n C dX5_remove_1 rfl ?_
  refine gx_callV (ci := 4) (T := TX5) (N := 2) C (k5_hasNot l D A hs (nI i) hr) cb_X5_remove__X5_hasNot gX5_remove_X5_hasNot rfl (hG := h1) rfl rfl (Nat.le_of_ble_eq_true rfl) ⟨Nat.le_refl _, Nat.le_refl _⟩ dX5_remove_2 (gx_ki fun r_2 G_2 h_2 => ?_)
  obtain ⟨rfl, rfl⟩ := h_2
  refine gx_if_eq (tgt := 9) C dX5_remove_5 (by decide) (fun c_5 => ?_) (fun c_5 => ?_)
  · refine gx_iload_n C dX5_remove_9 rfl ?_
    refine gx_istore_n C dX5_remove_10 (by decide) ?_
    exact hloop (xs.length + 1) i _ _ (by omega) (by omega) ⟨⟨hr, gOut_rf⟩, rfl, fun a ha => ⟨fun _ => by simp [ha], fun q1 q2 => absurd q1 (by omega)⟩⟩
  · exact absurd (by rw [gIn_nI (by omega), if_pos (by simpa using hi)]) c_5
set_option maxHeartbeats 4000000 in
set_option maxRecDepth 100000 in
/-- Row.insert -/
theorem k5_insert (l : Launch) (D : gD) (A : Nat → Prop) (hs : Nat) {G : gH} {r cap : Nat} {xs : List Int32} (i : Nat) (v : Int32) (hr : gRow D G r cap xs) (hi : i ≤ xs.length) (hf : xs.length < cap) : gM l yX5_insert wsX5_insert (gR 2) D A hs 0 0 [.ref r, .int (nI i), .int v] G (gPv fun G' => gRow D G' r cap (xs.insertIdx i v) ∧ gOut r 2 G G') := by
  refine gM_intro (by decide) rfl rfl (Nat.le_of_ble_eq_true rfl) ?_
  intro p e s m args below meth c C
  obtain ⟨f, h1, h2, h3, h4, h5⟩ := id hr
  have hloop : ∀ (n j : Nat) (G1 : gH) (ys : List Int32), xs.length < j + n → j + i ≤ xs.length → (gRow D G1 r cap ys ∧ gOut r 2 G G1) ∧ ys.length = xs.length + 1 ∧ (∀ (a : Nat) (ha : a < ys.length), (a ≤ xs.length - j → a < xs.length → ys[a] = xs.getD a 0) ∧ (xs.length - j < a → ys[a] = xs.getD (a - 1) 0)) → gX p l e (gR 2) s m args below meth c D A 4 hs 0 0 (MQ below (gQ D A hs 0 (gPv fun G' => gRow D G' r cap (xs.insertIdx i v) ∧ gOut r 2 G G')) args s 0 0 A) G1 [some (.ref r), some (.int (nI i)), some (.int v), some (.int (nI (xs.length - j)))] 37 [] := by
    intro n
    induction n with
    | zero => intro j G1 ys hm hj0 hI; exact absurd hm (by omega)
    | succ n ih =>
      intro j G1 ys hm hj0 hI
      refine gx_iload_n C dX5_insert_37 rfl ?_
      refine gx_iload_n C dX5_insert_38 rfl ?_
      refine gx_icmp_le (tgt := 60) C dX5_insert_39 (by decide) (fun c_39 => ?_) (fun c_39 => ?_)
      · have hj : ¬ i < xs.length - j := fun q => nI_ge q (by omega) c_39
        refine gx_aload_n C dX5_insert_60 rfl ?_
        refine gx_iload_n C dX5_insert_61 rfl ?_
        refine gx_iload_n C dX5_insert_62 rfl ?_
        refine gx_callV (ci := 4) (T := TX5) (N := 2) C (k5_set l D A hs (nI i) v hI.1.1) cb_X5_insert__X5_set gX5_insert_X5_set rfl (hG := (gRow_ob hI.1.1)) rfl rfl (Nat.le_of_ble_eq_true rfl) ⟨Nat.le_refl _, Nat.le_refl _⟩ dX5_insert_63 (gx_kv fun G_63 h_63 => ?_)
        refine gx_vret (mc := 0) C ?_ dX5_insert_66
        obtain ⟨⟨hI1, hI2⟩, hz, hv⟩ := hI
        have hd := h_63
        rw [lset_nI (by omega)] at hd
        have e : ys.set i v = xs.insertIdx i v := by
          have hlen : (xs.insertIdx i v).length = xs.length + 1 := by rw [List.length_insertIdx, if_pos hi]
          refine List.ext_getElem (by rw [List.length_set, hz, hlen]) (fun a ha hb => ?_)
          rw [List.length_set] at ha
          have h9 := hv a ha
          rw [List.getElem_set, List.getElem_insertIdx]
          by_cases q : a < i
          · rw [if_neg (by omega), dif_pos q, h9.1 (by omega) (by omega)]; simp [show a < xs.length by omega]
          · by_cases q2 : i = a
            · subst q2
              rw [if_pos rfl, dif_neg q, dif_pos rfl]
            · rw [if_neg q2, dif_neg q, dif_neg (by omega), h9.2 (by omega)]; simp [show a - 1 < xs.length by omega]
        rw [e] at hd
        exact ⟨rfl, hd.1, gOut_tr hI2 hd.2⟩
      · have hj : i < xs.length - j := by
          rcases Nat.lt_or_ge i (xs.length - j) with q | q
          · exact q
          · exact absurd (nI_le q (by omega)) c_39
        refine gx_aload_n C dX5_insert_42 rfl ?_
        refine gx_iload_n C dX5_insert_43 rfl ?_
        refine gx_aload_n C dX5_insert_44 rfl ?_
        refine gx_iload_n C dX5_insert_45 rfl ?_
        refine gx_iconst (v := 1) C dX5_insert_46 (by decide) ?_
        refine gx_isub C dX5_insert_47 ?_
        refine gx_callV (ci := 4) (T := TX5) (N := 2) C (k5_get l D A hs (nI (xs.length - j) - 1) hI.1.1) cb_X5_insert__X5_get gX5_insert_X5_get rfl (hG := (gRow_ob hI.1.1)) rfl rfl (Nat.le_of_ble_eq_true rfl) ⟨Nat.le_refl _, Nat.le_refl _⟩ dX5_insert_48 (gx_ki fun r_48 G_48 h_48 => ?_)
        obtain ⟨rfl, rfl⟩ := h_48
        refine gx_callV (ci := 4) (T := TX5) (N := 2) C (k5_set l D A hs (nI (xs.length - j)) (lget ys (nI (xs.length - j) - 1)) hI.1.1) cb_X5_insert__X5_set gX5_insert_X5_set rfl (hG := (gRow_ob hI.1.1)) rfl rfl (Nat.le_of_ble_eq_true rfl) ⟨Nat.le_refl _, Nat.le_refl _⟩ dX5_insert_51 (gx_kv fun G_51 h_51 => ?_)
        refine gx_iincm C dX5_insert_54 rfl (by decide) ?_
        refine gx_goto (tgt := 37) C dX5_insert_57 (by decide) ?_
        have hd := h_51
        rw [show (nI (xs.length - j) - 1 : Int32) = nI (xs.length - j - 1) from gz_pred (by omega), lget_nI (by omega), lset_nI (by omega)] at hd
        obtain ⟨⟨hI1, hI2⟩, hz, hv⟩ := hI
        refine gx_V ?_ (ih (j + 1) _ _ (by omega) (by omega) ⟨⟨hd.1, gOut_tr hI2 hd.2⟩, by rw [List.length_set]; exact hz, ?_⟩)
        · have e : nI (xs.length - j) + (-1 : Int32) = nI (xs.length - (j + 1)) := by
            rw [show xs.length - j = (xs.length - (j + 1)) + 1 by omega]; exact pk_m1 _
          simp [List.set, e]
        · intro a ha
          rw [List.length_set] at ha
          constructor
          · intro q q'
            rw [List.getElem_set_ne (by omega)]
            exact (hv a (by omega)).1 (by omega) (by omega)
          · intro q1
            by_cases q : xs.length - j = a
            · rw [List.getElem_set, if_pos q]
              have h2 := (hv (a - 1) (by omega)).1 (by omega) (by omega)
              rw [show xs.length - j - 1 = a - 1 by omega]
              simp [show a - 1 < ys.length by omega, h2]
            · rw [List.getElem_set_ne q]
              exact (hv a (by omega)).2 (by omega)
  refine gx_iload_n C dX5_insert_0 rfl ?_
  refine gx_if_lt (tgt := 24) C dX5_insert_1 (by decide) (fun c_1 => ?_) (fun c_1 => ?_)
  · exact absurd c_1 (nI_pos (by omega))
  · refine gx_iload_n C dX5_insert_4 rfl ?_
    refine gx_aload_n C dX5_insert_5 rfl ?_
    refine gx_get C fd_X5_insert_13 (hG := h1) (hv := by rfl) dX5_insert_6 ?_
    refine gx_icmp_gt (tgt := 24) C dX5_insert_9 (by decide) (fun c_9 => ?_) (fun c_9 => ?_)
    · exact absurd c_9 (nI_nlt hi (by omega))
    · refine gx_aload_n C dX5_insert_12 rfl ?_
      refine gx_get C fd_X5_insert_13 (hG := h1) (hv := by rfl) dX5_insert_13 ?_
      refine gx_aload_n C dX5_insert_16 rfl ?_
      refine gx_get C fd_X5_insert_7 (hG := h1) (hv := by rfl) dX5_insert_17 ?_
      refine gx_alen (t0 := 0) C (hG := h2) (ht := by rfl) (hv := by rfl) dX5_insert_20 ?_
      refine gx_icmp_lt (tgt := 25) C dX5_insert_21 (by decide) (fun c_21 => ?_) (fun c_21 => ?_)
      · refine gx_aload_n C dX5_insert_25 rfl ?_
        refine gx_iload_n C dX5_insert_26 rfl ?_
        refine gx_callV (ci := 4) (T := TX5) (N := 2) C (k5_append l D A hs v hr) cb_X5_insert__X5_append gX5_insert_X5_append rfl (hG := h1) rfl rfl (Nat.le_of_ble_eq_true rfl) ⟨Nat.le_refl _, Nat.le_refl _⟩ dX5_insert_27 (gx_kv fun G_27 h_27 => ?_)
        rw [lapp, if_pos hf] at h_27
        refine gx_aload_n C dX5_insert_30 rfl ?_
        refine gx_get C fd_X5_insert_13 (hG := (gRow_ob h_27.1)) (hv := by rfl) dX5_insert_31 ?_
        refine gx_iconst (v := 1) C dX5_insert_34 (by decide) ?_
        refine gx_isub C dX5_insert_35 ?_
        refine gx_istore_n C dX5_insert_36 (by decide) ?_
        have e : (nI (xs ++ [v]).length - 1 : Int32) = nI (xs.length - 0) := by
          rw [List.length_append]; exact gz_pred (by simp)
        refine gx_V ?_ (hloop (xs.length + 1) 0 _ _ (by omega) (by omega) ⟨h_27, by simp, fun a ha => ⟨fun q1 q2 => ?_, fun q => ?_⟩⟩)
        · simp only [List.set, e]; rfl
        · rw [List.getElem_append_left q2]; simp [q2]
        · rw [List.length_append] at ha; simp at ha; omega
      · exact absurd (nI_lt hf (by omega)) c_21
