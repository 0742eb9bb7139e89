/-! THE MODEL: the text of the next round, the small calls -/
theorem pOut_i {v a b : Int32} (h : pOut v a b = 0 ∨ pOut v a b = 1) (h1 : ¬ 1 - pOut v a b = 0) : pOut v a b = 0 := by
  rcases h with q | q
  · exact q
  · exact absurd (by rw [q]; decide) h1
theorem ot_1 {c : Int32} (h : pOut c 97 122 = 0) : pOther c = c - 32 := by
  rw [pOther, if_pos h]
  apply Int32.toBitVec_inj.mp
  simp only [Int32.toBitVec_add, Int32.toBitVec_sub]
  show c.toBitVec - 97#32 + 65#32 = c.toBitVec - 32#32
  bv_omega
theorem ot_2 {c : Int32} (h : ¬ pOut c 97 122 = 0) (h2 : pOut c 65 90 = 0) : pOther c = c + 32 := by
  rw [pOther, if_neg h, if_pos h2]
  apply Int32.toBitVec_inj.mp
  simp only [Int32.toBitVec_add, Int32.toBitVec_sub]
  show c.toBitVec - 65#32 + 97#32 = c.toBitVec + 32#32
  bv_omega
theorem ot_3 {c : Int32} (h : ¬ pOut c 97 122 = 0) (h2 : ¬ pOut c 65 90 = 0) : pOther c = c := by
  rw [pOther, if_neg h, if_neg h2]
theorem cb_X9_other__X9_in : gCb yX9_in cX9_in 3 (some .boolean) wsX9_in (gR 0) (gR 1) 0 0 3 := ⟨rfl, rfl, rfl, by decide +kernel, by decide⟩
set_option maxRecDepth 20000 in
theorem in_X9_isAccepted_X9 : ∀ w ∈ wsX90, w ∈ wsX9_isAccepted := by decide +kernel
set_option maxRecDepth 20000 in
theorem fd_X9_isAccepted_7 : gFd wsX9_isAccepted RX9 7 8 RX9 TX9 11 0 := ⟨in_X9_isAccepted_X9, rfl, by decide, by decide +kernel⟩
theorem cb_X9_isAccepted__X9_listed : gCb yX9_listed cX9_listed 1 (some .int) wsX9_listed (gR 0) (gR 1) 0 0 1 := ⟨rfl, rfl, rfl, by decide +kernel, by decide⟩
set_option maxRecDepth 20000 in
theorem in_X9_madeAt_X9 : ∀ w ∈ wsX90, w ∈ wsX9_madeAt := by decide +kernel
set_option maxRecDepth 20000 in
theorem fd_X9_madeAt_122 : gFd wsX9_madeAt RX9 122 8 RX9 TX9 11 6 := ⟨in_X9_madeAt_X9, rfl, by decide, by decide +kernel⟩
set_option maxRecDepth 20000 in
theorem fd_X9_madeAt_19 : gFd wsX9_madeAt RX9 19 8 RX9 TX9 11 5 := ⟨in_X9_madeAt_X9, rfl, by decide, by decide +kernel⟩
set_option maxHeartbeats 600000 in
set_option maxRecDepth 100000 in
/-- X9_other -/
theorem k9_other (l : Launch) (D : gD) (A : Nat → Prop) (hs : Nat) {G : gH} (z : Int32) : gM l yX9_other wsX9_other (gR 1) D A hs 0 0 [.int z] G (gPi fun x G' => x = pOther z ∧ G' = G) := by
  refine gM_intro (by decide) rfl rfl (Nat.le_of_ble_eq_true rfl) ?_
  intro p e s m args below meth c C
  refine gx_iload_n C dX9_other_0 rfl ?_
  refine gx_bipush (v := 97) C dX9_other_1 (by decide) ?_
  refine gx_bipush (v := 122) C dX9_other_3 (by decide) ?_
  refine gx_callS C (k9_in l D A hs z 97 122) cb_X9_other__X9_in gX9_other_X9_in rfl rfl (Nat.le_of_ble_eq_true rfl) ⟨Nat.le_refl _, Nat.le_refl _⟩ dX9_other_5 (gx_ki fun r_5 G_5 h_5 => ?_)
  obtain ⟨rfl, rfl⟩ := h_5
  refine gx_if_eq (tgt := 18) C dX9_other_8 (by decide) (fun c_8 => ?_) (fun c_8 => ?_)
  · have h1 : ¬ pOut z 97 122 = 0 := fun q => by rw [q] at c_8; exact absurd c_8 (by decide)
    refine gx_iload_n C dX9_other_18 rfl ?_
    refine gx_bipush (v := 65) C dX9_other_19 (by decide) ?_
    refine gx_bipush (v := 90) C dX9_other_21 (by decide) ?_
    refine gx_callS C (k9_in l D A hs z 65 90) cb_X9_other__X9_in gX9_other_X9_in rfl rfl (Nat.le_of_ble_eq_true rfl) ⟨Nat.le_refl _, Nat.le_refl _⟩ dX9_other_23 (gx_ki fun r_23 G_23 h_23 => ?_)
    obtain ⟨rfl, rfl⟩ := h_23
    refine gx_if_eq (tgt := 36) C dX9_other_26 (by decide) (fun c_26 => ?_) (fun c_26 => ?_)
    · have h2 : ¬ pOut z 65 90 = 0 := fun q => by rw [q] at c_26; exact absurd c_26 (by decide)
      refine gx_iload_n C dX9_other_36 rfl ?_
      refine gx_zret (mc := 0) C rfl ?_ dX9_other_37
      first
      | exact ⟨_, rfl, (ot_1 h1).symm, rfl⟩
      | exact ⟨_, rfl, (ot_2 h1 h2).symm, rfl⟩
      | exact ⟨_, rfl, (ot_3 h1 h2).symm, rfl⟩
    · have h2 := pOut_i pOut_b c_26
      refine gx_iload_n C dX9_other_29 rfl ?_
      refine gx_bipush (v := 32) C dX9_other_30 (by decide) ?_
      refine gx_iadd C dX9_other_32 ?_
      first | refine gx_top (nI_add _ _) ?_ | skip
      refine gx_goto (tgt := 37) C dX9_other_33 (by decide) ?_
      refine gx_zret (mc := 0) C rfl ?_ dX9_other_37
      first
      | exact ⟨_, rfl, (ot_1 h1).symm, rfl⟩
      | exact ⟨_, rfl, (ot_2 h1 h2).symm, rfl⟩
      | exact ⟨_, rfl, (ot_3 h1 h2).symm, rfl⟩
  · have h1 := pOut_i pOut_b c_8
    refine gx_iload_n C dX9_other_11 rfl ?_
    refine gx_bipush (v := 32) C dX9_other_12 (by decide) ?_
    refine gx_isub C dX9_other_14 ?_
    refine gx_goto (tgt := 37) C dX9_other_15 (by decide) ?_
    refine gx_zret (mc := 0) C rfl ?_ dX9_other_37
    first
    | exact ⟨_, rfl, (ot_1 h1).symm, rfl⟩
    | exact ⟨_, rfl, (ot_2 h1 h2).symm, rfl⟩
    | exact ⟨_, rfl, (ot_3 h1 h2).symm, rfl⟩
set_option maxHeartbeats 600000 in
set_option maxRecDepth 100000 in
/-- X9_isAccepted -/
theorem k9_isAccepted (l : Launch) (D : gD) (A : Nat → Prop) (hs : Nat) {G : gH} {a : Nat} {z : MI} {st : Nat → Int32} (ho : gMob G a z) (hs1 : gMst D G (a + 1) 855 st) {li : ML} {n9 : Nat} (hL : sLi st li n9) (k : Nat) (hk : k < li.1.length) : gM l yX9_isAccepted wsX9_isAccepted (gR 1) D A hs 0 0 [.ref a, .int (nI k)] G (gPi fun x G' => x = (if li.2.1.getD k 0 = 1 then 1 else 0) ∧ G' = G) := by
  refine gM_intro (by decide) rfl rfl (Nat.le_of_ble_eq_true rfl) ?_
  intro p e s m args below meth c C
  have l3 := hL.2.1
  have lj := hL.2.2.2.2.2.2 k hk
  refine gx_aload_n C dX9_isAccepted_0 rfl ?_
  refine gx_get C fd_X9_isAccepted_7 (hG := ho) (hv := by rfl) dX9_isAccepted_1 ?_
  refine gx_iload_n C dX9_isAccepted_4 rfl ?_
  refine gx_callS C (k9_listed l D A hs k) cb_X9_isAccepted__X9_listed gX9_isAccepted_X9_listed rfl rfl (Nat.le_of_ble_eq_true rfl) ⟨Nat.le_refl _, Nat.le_refl _⟩ dX9_isAccepted_5 (gx_ki fun r_5 G_5 h_5 => ?_)
  obtain ⟨rfl, rfl⟩ := h_5
  refine gx_iconst (v := nI 4) C dX9_isAccepted_8 (by decide) ?_
  refine gx_iadd C dX9_isAccepted_9 ?_
  first | refine gx_top (nI_add _ _) ?_ | skip
  refine gx_ialdN C (hG := hs1) (hk := by omega) (hn := by omega) dX9_isAccepted_10 ?_
  rw [lj.2.2.1]
  refine gx_iconst (v := 1) C dX9_isAccepted_11 (by decide) ?_
  refine gx_icmp_ne (tgt := 19) C dX9_isAccepted_12 (by decide) (fun c_12 => ?_) (fun c_12 => ?_)
  · refine gx_iconst (v := 0) C dX9_isAccepted_19 (by decide) ?_
    refine gx_zret (mc := 0) C rfl ?_ dX9_isAccepted_20
    first
    | exact ⟨_, rfl, (if_pos c_12).symm, rfl⟩
    | exact ⟨_, rfl, (if_neg c_12).symm, rfl⟩
  · refine gx_iconst (v := 1) C dX9_isAccepted_15 (by decide) ?_
    refine gx_goto (tgt := 20) C dX9_isAccepted_16 (by decide) ?_
    refine gx_zret (mc := 0) C rfl ?_ dX9_isAccepted_20
    first
    | exact ⟨_, rfl, (if_pos c_12).symm, rfl⟩
    | exact ⟨_, rfl, (if_neg c_12).symm, rfl⟩
set_option maxHeartbeats 600000 in
set_option maxRecDepth 100000 in
/-- X9_madeAt -/
theorem k9_madeAt (l : Launch) (D : gD) (A : Nat → Prop) (hs : Nat) {G : gH} {a : Nat} {z : MI} {md : Nat → Int32} {xs : List Int32} (ho : gMob G a z) (hd : gMst D G (a + 4) 170 md) (hz : z.2.2.1 = nI xs.length) (hx : xs.length ≤ 100) (hm9 : ∀ j : Nat, j < xs.length → md j = xs.getD j 0) (i : Int32) (hi : ¬ i < 0) : gM l yX9_madeAt wsX9_madeAt (gR 0) D A hs 0 0 [.ref a, .int i] G (gPi fun x G' => x = oChr xs i ∧ G' = G) := by
  refine gM_intro (by decide) rfl rfl (Nat.le_of_ble_eq_true rfl) ?_
  intro p e s m args below meth c C
  refine gx_iload_n C dX9_madeAt_0 rfl ?_
  refine gx_aload_n C dX9_madeAt_1 rfl ?_
  refine gx_get C fd_X9_madeAt_122 (hG := ho) (hv := by rfl) dX9_madeAt_2 ?_
  rw [hz]
  refine gx_icmp_ge (tgt := 17) C dX9_madeAt_5 (by decide) (fun c_5 => ?_) (fun c_5 => ?_)
  · have e : oChr xs i = -4 := by rw [oChr, if_neg hi, if_neg (Int32.not_lt.mpr c_5)]
    refine gx_bipush (v := (-4)) C dX9_madeAt_17 (by decide) ?_
    refine gx_zret (mc := 0) C rfl ?_ dX9_madeAt_19
    exact ⟨_, rfl, e.symm, rfl⟩
  · have hg := gIn_t hi c_5 (by omega)
    obtain ⟨j, hj, rfl⟩ := gIn_ex hg (by omega)
    have e : oChr xs (nI j) = md j := by rw [oChr, if_neg hi, if_pos (nI_lt hj (by omega)), lget_nI (by omega), hm9 j hj]
    refine gx_aload_n C dX9_madeAt_8 rfl ?_
    refine gx_get C fd_X9_madeAt_19 (hG := ho) (hv := by rfl) dX9_madeAt_9 ?_
    refine gx_iload_n C dX9_madeAt_12 rfl ?_
    refine gx_ialdN C (hG := hd) (hk := by omega) (hn := by omega) dX9_madeAt_13 ?_
    refine gx_goto (tgt := 19) C dX9_madeAt_14 (by decide) ?_
    refine gx_zret (mc := 0) C rfl ?_ dX9_madeAt_19
    exact ⟨_, rfl, e.symm, rfl⟩
