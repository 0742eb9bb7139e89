/-! THE CLASS ROW -/
theorem gz_in {xs : List Int32} {cap : Nat} {i : Int32} (h3 : xs.length ≤ cap) (hi : gIn i xs.length = true) : vp_in i cap := by
  have := vp_in_iff.mp (gIn_vp.mp hi)
  rw [vp_in_iff]
  omega
theorem gz_upd {xs : List Int32} {f : Nat → Int32} {i v : Int32} (hi : gIn i xs.length = true) (h5 : ∀ (i : Nat) (h : i < xs.length), f i = xs[i]) : ∀ (j : Nat) (h : j < (lset xs i v).length), upd f i.toNatClampNeg v j = (lset xs i v)[j] := by
  intro j hj
  have e : lset xs i v = xs.set i.toNatClampNeg v := by rw [lset, if_pos hi]
  simp only [e] at hj ⊢
  rw [List.length_set] at hj
  rw [List.getElem_set]
  by_cases q : i.toNatClampNeg = j
  · subst q; simp [upd]
  · simp [upd, q, Ne.symm q, h5 j hj]
theorem gz_idx {xs : List Int32} {v : Int32} {j : Nat} (hj : j < xs.length) (h : xs.getD j 0 = v) (hI : ∀ a, a < j → ¬ xs.getD a 0 = v) : nI j = lidx xs v := by
  have e : xs.getD j 0 = xs[j] := by simp [hj]
  rw [e] at h
  have hm : v ∈ xs := by rw [← h]; exact List.getElem_mem hj
  rw [lidx, if_pos hm]
  congr 1
  have h1 := List.idxOf_lt_length_iff.mpr hm
  have h2 : xs[xs.idxOf v] = v := List.getElem_idxOf h1
  rcases Nat.lt_trichotomy (xs.idxOf v) j with q | q | q
  · exact absurd (by rw [← h2]; simp [h1]) (hI _ q)
  · exact q.symm
  · have h3 : xs.idxOf v ≤ j := by
      have := List.not_of_lt_findIdx (p := (· == v)) (xs := xs) (i := j) q
      simp [h] at this
    omega
theorem gz_idn {xs : List Int32} {v : Int32} {j : Nat} (hj : xs.length ≤ j) (hI : ∀ a, a < j → ¬ xs.getD a 0 = v) : (-1 : Int32) = lidx xs v := by
  have hm : ¬ v ∈ xs := fun hm => by
    obtain ⟨i, hi, he⟩ := List.getElem_of_mem hm
    exact hI i (by omega) (by simp [hi, he])
  rw [lidx, if_neg hm]
set_option maxRecDepth 20000 in
theorem in_X5_used_X5 : ∀ w ∈ wsX50, w ∈ wsX5_used := by decide +kernel
set_option maxRecDepth 20000 in
theorem fd_X5_used_13 : gFd wsX5_used RX5 13 4 RX5 TX5 2 1 := ⟨in_X5_used_X5, rfl, by decide, by decide +kernel⟩
set_option maxRecDepth 20000 in
theorem in_X5_hasNot_X5 : ∀ w ∈ wsX50, w ∈ wsX5_hasNot := by decide +kernel
set_option maxRecDepth 20000 in
theorem fd_X5_hasNot_13 : gFd wsX5_hasNot RX5 13 4 RX5 TX5 2 1 := ⟨in_X5_hasNot_X5, rfl, by decide, by decide +kernel⟩
set_option maxRecDepth 20000 in
theorem fd_X5_hasNot_7 : gFd wsX5_hasNot RX5 7 4 RX5 TX5 2 0 := ⟨in_X5_hasNot_X5, rfl, by decide, by decide +kernel⟩
theorem cb_X5_get__X5_hasNot : gCb yX5_hasNot cX5_hasNot 2 (some .boolean) wsX5_hasNot (gR 0) (gR 1) 0 0 1 := ⟨rfl, rfl, rfl, by decide +kernel, by decide⟩
set_option maxRecDepth 20000 in
theorem in_X5_get_X5 : ∀ w ∈ wsX50, w ∈ wsX5_get := by decide +kernel
set_option maxRecDepth 20000 in
theorem fd_X5_get_7 : gFd wsX5_get RX5 7 4 RX5 TX5 2 0 := ⟨in_X5_get_X5, rfl, by decide, by decide +kernel⟩
theorem cb_X5_set__X5_hasNot : gCb yX5_hasNot cX5_hasNot 2 (some .boolean) wsX5_hasNot (gR 0) (gR 1) 0 0 1 := ⟨rfl, rfl, rfl, by decide +kernel, by decide⟩
set_option maxRecDepth 20000 in
theorem in_X5_set_X5 : ∀ w ∈ wsX50, w ∈ wsX5_set := by decide +kernel
set_option maxRecDepth 20000 in
theorem fd_X5_set_7 : gFd wsX5_set RX5 7 4 RX5 TX5 2 0 := ⟨in_X5_set_X5, rfl, by decide, by decide +kernel⟩
theorem cb_X5_add__X5_get : gCb yX5_get cX5_get 2 (some .int) wsX5_get (gR 1) (gR 2) 0 0 1 := ⟨rfl, rfl, rfl, by decide +kernel, by decide⟩
theorem cb_X5_add__X5_set : gCb yX5_set cX5_set 3 none wsX5_set (gR 1) (gR 2) 0 0 2 := ⟨rfl, rfl, rfl, by decide +kernel, by decide⟩
set_option maxRecDepth 20000 in
theorem in_X5_append_X5 : ∀ w ∈ wsX50, w ∈ wsX5_append := by decide +kernel
set_option maxRecDepth 20000 in
theorem fd_X5_append_13 : gFd wsX5_append RX5 13 4 RX5 TX5 2 1 := ⟨in_X5_append_X5, rfl, by decide, by decide +kernel⟩
set_option maxRecDepth 20000 in
theorem fd_X5_append_7 : gFd wsX5_append RX5 7 4 RX5 TX5 2 0 := ⟨in_X5_append_X5, rfl, by decide, by decide +kernel⟩
set_option maxRecDepth 20000 in
theorem in_X5_cutTo_X5 : ∀ w ∈ wsX50, w ∈ wsX5_cutTo := by decide +kernel
set_option maxRecDepth 20000 in
theorem fd_X5_cutTo_13 : gFd wsX5_cutTo RX5 13 4 RX5 TX5 2 1 := ⟨in_X5_cutTo_X5, rfl, by decide, by decide +kernel⟩
set_option maxRecDepth 20000 in
theorem in_X5_placeOf_X5 : ∀ w ∈ wsX50, w ∈ wsX5_placeOf := by decide +kernel
set_option maxRecDepth 20000 in
theorem fd_X5_placeOf_13 : gFd wsX5_placeOf RX5 13 4 RX5 TX5 2 1 := ⟨in_X5_placeOf_X5, rfl, by decide, by decide +kernel⟩
theorem cb_X5_placeOf__X5_get : gCb yX5_get cX5_get 2 (some .int) wsX5_get (gR 1) (gR 2) 0 0 1 := ⟨rfl, rfl, rfl, by decide +kernel, by decide⟩
set_option maxHeartbeats 4000000 in
set_option maxRecDepth 100000 in
/-- Row.used -/
theorem k5_used (l : Launch) (D : gD) (A : Nat → Prop) (hs : Nat) {G : gH} {r cap : Nat} {xs : List Int32} (hr : gRow D G r cap xs) : gM l yX5_used wsX5_used (gR 0) D A hs 0 0 [.ref r] G (gPi fun x G' => x = nI xs.length ∧ G' = G) := by
  refine gM_intro (by decide) rfl rfl (Nat.le_of_ble_eq_true rfl) ?_
  intro p e s m args below meth c C
  obtain ⟨f, h1, h2, h3, h4, h5⟩ := id hr
  refine gx_aload_n C dX5_used_0 rfl ?_
  refine gx_get C fd_X5_used_13 (hG := h1) (hv := by rfl) dX5_used_1 ?_
  refine gx_zret (mc := 0) C rfl ?_ dX5_used_4
  exact ⟨_, rfl, rfl, rfl⟩
set_option maxHeartbeats 4000000 in
set_option maxRecDepth 100000 in
/-- Row.hasNot -/
theorem k5_hasNot (l : Launch) (D : gD) (A : Nat → Prop) (hs : Nat) {G : gH} {r cap : Nat} {xs : List Int32} (i : Int32) (hr : gRow D G r cap xs) : gM l yX5_hasNot wsX5_hasNot (gR 0) D A hs 0 0 [.ref r, .int i] G (gPi fun x G' => x = (if gIn i xs.length then 0 else 1) ∧ G' = G) := by
  refine gM_intro (by decide) rfl rfl (Nat.le_of_ble_eq_true rfl) ?_
  intro p e s m args below meth c C
  obtain ⟨f, h1, h2, h3, h4, h5⟩ := id hr
  have hn : xs.length < 2 ^ 31 := by omega
  refine gx_iload_n C dX5_hasNot_0 rfl ?_
  refine gx_if_lt (tgt := 21) C dX5_hasNot_1 (by decide) (fun c_1 => ?_) (fun c_1 => ?_)
  · have hi := gIn_f0 (n := xs.length) c_1
    refine gx_iconst (v := 1) C dX5_hasNot_21 (by decide) ?_
    refine gx_goto (tgt := 26) C dX5_hasNot_22 (by decide) ?_
    refine gx_zret (mc := 0) C rfl ?_ dX5_hasNot_26
    exact ⟨_, rfl, by rw [hi]; rfl, rfl⟩
  · refine gx_iload_n C dX5_hasNot_4 rfl ?_
    refine gx_aload_n C dX5_hasNot_5 rfl ?_
    refine gx_get C fd_X5_hasNot_13 (hG := h1) (hv := by rfl) dX5_hasNot_6 ?_
    refine gx_icmp_ge (tgt := 21) C dX5_hasNot_9 (by decide) (fun c_9 => ?_) (fun c_9 => ?_)
    · have hi := gIn_f1 c_9 hn
      refine gx_iconst (v := 1) C dX5_hasNot_21 (by decide) ?_
      refine gx_goto (tgt := 26) C dX5_hasNot_22 (by decide) ?_
      refine gx_zret (mc := 0) C rfl ?_ dX5_hasNot_26
      exact ⟨_, rfl, by rw [hi]; rfl, rfl⟩
    · refine gx_iload_n C dX5_hasNot_12 rfl ?_
      refine gx_aload_n C dX5_hasNot_13 rfl ?_
      refine gx_get C fd_X5_hasNot_7 (hG := h1) (hv := by rfl) dX5_hasNot_14 ?_
      refine gx_alen (t0 := 0) C (hG := h2) (ht := by rfl) (hv := by rfl) dX5_hasNot_17 ?_
      refine gx_icmp_lt (tgt := 25) C dX5_hasNot_18 (by decide) (fun c_18 => ?_) (fun c_18 => ?_)
      · have hi := gIn_t c_1 c_9 hn
        refine gx_iconst (v := 0) C dX5_hasNot_25 (by decide) ?_
        refine gx_zret (mc := 0) C rfl ?_ dX5_hasNot_26
        exact ⟨_, rfl, by rw [hi]; rfl, rfl⟩
      · exact absurd (gz_ltc c_9 h3 (by omega)) c_18
set_option maxHeartbeats 4000000 in
set_option maxRecDepth 100000 in
/-- Row.get -/
theorem k5_get (l : Launch) (D : gD) (A : Nat → Prop) (hs : Nat) {G : gH} {r cap : Nat} {xs : List Int32} (i : Int32) (hr : gRow D G r cap xs) : gM l yX5_get wsX5_get (gR 1) D A hs 0 0 [.ref r, .int i] G (gPi fun x G' => x = lget xs i ∧ G' = G) := by
  refine gM_intro (by decide) rfl rfl (Nat.le_of_ble_eq_true rfl) ?_
  intro p e s m args below meth c C
  obtain ⟨f, h1, h2, h3, h4, h5⟩ := id hr
  have hn : xs.length < 2 ^ 31 := by omega
  refine gx_aload_n C dX5_get_0 rfl ?_
  refine gx_iload_n C dX5_get_1 rfl ?_
  refine gx_callV (ci := 4) (T := TX5) (N := 2) C (k5_hasNot l D A hs i hr) cb_X5_get__X5_hasNot gX5_get_X5_hasNot rfl (hG := h1) rfl rfl (Nat.le_of_ble_eq_true rfl) ⟨Nat.le_refl _, Nat.le_refl _⟩ dX5_get_2 (gx_ki fun r_2 G_2 h_2 => ?_)
  obtain ⟨rfl, rfl⟩ := h_2
  refine gx_if_eq (tgt := 12) C dX5_get_5 (by decide) (fun c_5 => ?_) (fun c_5 => ?_)
  · have hi : gIn i xs.length = true := by
      by_cases q : gIn i xs.length = true
      · exact q
      · rw [if_neg q] at c_5; exact absurd c_5 (by decide)
    refine gx_aload_n C dX5_get_12 rfl ?_
    refine gx_get C fd_X5_get_7 (hG := h1) (hv := by rfl) dX5_get_13 ?_
    refine gx_iload_n C dX5_get_16 rfl ?_
    refine gx_iald C (hG := h2) (hin := gz_in h3 hi) dX5_get_17 ?_
    refine gx_zret (mc := 0) C rfl ?_ dX5_get_18
    first
      | exact ⟨_, rfl, by rw [lget, if_pos hi, h5 _ (gIn_cl hi)]; simp [gIn_cl hi], rfl⟩
      | exact ⟨_, rfl, by rw [lget, if_neg hi], rfl⟩
  · have hi : ¬ gIn i xs.length = true := fun q => by
      rw [if_pos q] at c_5; exact c_5 rfl
    refine gx_iconst (v := 0) C dX5_get_8 (by decide) ?_
    refine gx_goto (tgt := 18) C dX5_get_9 (by decide) ?_
    refine gx_zret (mc := 0) C rfl ?_ dX5_get_18
    first
      | exact ⟨_, rfl, by rw [lget, if_pos hi, h5 _ (gIn_cl hi)]; simp [gIn_cl hi], rfl⟩
      | exact ⟨_, rfl, by rw [lget, if_neg hi], rfl⟩
set_option maxHeartbeats 4000000 in
set_option maxRecDepth 100000 in
/-- Row.set -/
theorem k5_set (l : Launch) (D : gD) (A : Nat → Prop) (hs : Nat) {G : gH} {r cap : Nat} {xs : List Int32} (i v : Int32) (hr : gRow D G r cap xs) : gM l yX5_set wsX5_set (gR 1) D A hs 0 0 [.ref r, .int i, .int v] G (gPv fun G' => gRow D G' r cap (lset xs i v) ∧ gOut r 2 G G') := by
  refine gM_intro (by decide) rfl rfl (Nat.le_of_ble_eq_true rfl) ?_
  intro p e s m args below meth c C
  obtain ⟨f, h1, h2, h3, h4, h5⟩ := id hr
  have hn : xs.length < 2 ^ 31 := by omega
  refine gx_aload_n C dX5_set_0 rfl ?_
  refine gx_iload_n C dX5_set_1 rfl ?_
  refine gx_callV (ci := 4) (T := TX5) (N := 2) C (k5_hasNot l D A hs i hr) cb_X5_set__X5_hasNot gX5_set_X5_hasNot rfl (hG := h1) rfl rfl (Nat.le_of_ble_eq_true rfl) ⟨Nat.le_refl _, Nat.le_refl _⟩ dX5_set_2 (gx_ki fun r_2 G_2 h_2 => ?_)
  obtain ⟨rfl, rfl⟩ := h_2
  refine gx_if_ne (tgt := 15) C dX5_set_5 (by decide) (fun c_5 => ?_) (fun c_5 => ?_)
  · have hi : ¬ gIn i xs.length = true := fun q => by
      rw [if_pos q] at c_5; exact c_5 rfl
    refine gx_vret (mc := 0) C ?_ dX5_set_15
    first
      | exact ⟨rfl, by rw [lset, if_neg hi]; exact hr, gOut_rf⟩
      | exact ⟨rfl, gRow_mk (by rw [gU_n (by omega)]; exact h1) gU_s (by rw [lset_len]) (by rw [lset_len]; exact h3) h4 (gz_upd hi h5), gOut_up gOut_rf (by omega)⟩
  · have hi : gIn i xs.length = true := by
      by_cases q : gIn i xs.length = true
      · exact q
      · rw [if_neg q] at c_5; exact absurd c_5 (by decide)
    refine gx_aload_n C dX5_set_8 rfl ?_
    refine gx_get C fd_X5_set_7 (hG := h1) (hv := by rfl) dX5_set_9 ?_
    refine gx_iload_n C dX5_set_12 rfl ?_
    refine gx_iload_n C dX5_set_13 rfl ?_
    refine gx_iast C (hG := h2) (hin := gz_in h3 hi) dX5_set_14 ?_
    refine gx_vret (mc := 0) C ?_ dX5_set_15
    first
      | exact ⟨rfl, by rw [lset, if_neg hi]; exact hr, gOut_rf⟩
      | exact ⟨rfl, gRow_mk (by rw [gU_n (by omega)]; exact h1) gU_s (by rw [lset_len]) (by rw [lset_len]; exact h3) h4 (gz_upd hi h5), gOut_up gOut_rf (by omega)⟩
set_option maxHeartbeats 4000000 in
set_option maxRecDepth 100000 in
/-- Row.add -/
theorem k5_add (l : Launch) (D : gD) (A : Nat → Prop) (hs : Nat) {G : gH} {r cap : Nat} {xs : List Int32} (i v : Int32) (hr : gRow D G r cap xs) : gM l yX5_add wsX5_add (gR 2) D A hs 0 0 [.ref r, .int i, .int v] G (gPv fun G' => gRow D G' r cap (lset xs i (lget xs i + v)) ∧ gOut r 2 G G') := by
  refine gM_intro (by decide) rfl rfl (Nat.le_of_ble_eq_true rfl) ?_
  intro p e s m args below meth c C
  refine gx_aload_n C dX5_add_0 rfl ?_
  refine gx_iload_n C dX5_add_1 rfl ?_
  refine gx_aload_n C dX5_add_2 rfl ?_
  refine gx_iload_n C dX5_add_3 rfl ?_
  refine gx_callV (ci := 4) (T := TX5) (N := 2) C (k5_get l D A hs i hr) cb_X5_add__X5_get gX5_add_X5_get rfl (hG := (gRow_ob hr)) rfl rfl (Nat.le_of_ble_eq_true rfl) ⟨Nat.le_refl _, Nat.le_refl _⟩ dX5_add_4 (gx_ki fun r_4 G_4 h_4 => ?_)
  obtain ⟨rfl, rfl⟩ := h_4
  refine gx_iload_n C dX5_add_7 rfl ?_
  refine gx_iadd C dX5_add_8 ?_
  refine gx_callV (ci := 4) (T := TX5) (N := 2) C (k5_set l D A hs i (lget xs i + v) hr) cb_X5_add__X5_set gX5_add_X5_set rfl (hG := (gRow_ob hr)) rfl rfl (Nat.le_of_ble_eq_true rfl) ⟨Nat.le_refl _, Nat.le_refl _⟩ dX5_add_9 (gx_kv fun G_9 h_9 => ?_)
  refine gx_vret (mc := 0) C ?_ dX5_add_12
  exact ⟨rfl, h_9⟩
set_option maxHeartbeats 4000000 in
set_option maxRecDepth 100000 in
/-- Row.append -/
theorem k5_append (l : Launch) (D : gD) (A : Nat → Prop) (hs : Nat) {G : gH} {r cap : Nat} {xs : List Int32} (v : Int32) (hr : gRow D G r cap xs) : gM l yX5_append wsX5_append (gR 0) D A hs 0 0 [.ref r, .int v] G (gPv fun G' => gRow D G' r cap (lapp cap xs v) ∧ gOut r 2 G G') := by
  refine gM_intro (by decide) rfl rfl (Nat.le_of_ble_eq_true rfl) ?_
  intro p e s m args below meth c C
  obtain ⟨f, h1, h2, h3, h4, h5⟩ := id hr
  have hn : xs.length < 2 ^ 31 := by omega
  refine gx_aload_n C dX5_append_0 rfl ?_
  refine gx_get C fd_X5_append_13 (hG := h1) (hv := by rfl) dX5_append_1 ?_
  refine gx_if_lt (tgt := 39) C dX5_append_4 (by decide) (fun c_4 => ?_) (fun c_4 => ?_)
  · exact absurd c_4 (nI_pos hn)
  · refine gx_aload_n C dX5_append_7 rfl ?_
    refine gx_get C fd_X5_append_13 (hG := h1) (hv := by rfl) dX5_append_8 ?_
    refine gx_aload_n C dX5_append_11 rfl ?_
    refine gx_get C fd_X5_append_7 (hG := h1) (hv := by rfl) dX5_append_12 ?_
    refine gx_alen (t0 := 0) C (hG := h2) (ht := by rfl) (hv := by rfl) dX5_append_15 ?_
    refine gx_icmp_ge (tgt := 39) C dX5_append_16 (by decide) (fun c_16 => ?_) (fun c_16 => ?_)
    · have hi : ¬ xs.length < cap := fun q => nI_ge q (by omega) c_16
      refine gx_vret (mc := 0) C ?_ dX5_append_39
      first
        | exact ⟨rfl, by rw [lapp, if_neg hi]; exact hr, gOut_rf⟩
        | refine ⟨rfl, ?_, gOut_up (gOut_up gOut_rf (by omega)) (by omega)⟩
          rw [lapp, if_pos hi]
          refine gRow_mk gU_s (by rw [gU_n (by omega)]; exact gU_s) (by rw [List.length_append]; exact nI_1 xs.length) (by rw [List.length_append]; exact hi) h4 ?_
          intro i hx
          rw [nI_clamp hn]
          by_cases q : i = xs.length
          · subst q; simp [upd]
          · have q2 : i < xs.length := by rw [List.length_append] at hx; simp at hx; omega
            rw [List.getElem_append_left q2, ← h5 i q2]; simp [upd, q]
    · have hi : xs.length < cap := by
        rcases Nat.lt_or_ge xs.length cap with q | q
        · exact q
        · exact absurd (nI_le q hn) c_16
      refine gx_aload_n C dX5_append_19 rfl ?_
      refine gx_get C fd_X5_append_7 (hG := h1) (hv := by rfl) dX5_append_20 ?_
      refine gx_aload_n C dX5_append_23 rfl ?_
      refine gx_get C fd_X5_append_13 (hG := h1) (hv := by rfl) dX5_append_24 ?_
      refine gx_iload_n C dX5_append_27 rfl ?_
      refine gx_iast C (hG := h2) (hin := vp_in_nI hi (by omega)) dX5_append_28 ?_
      refine gx_aload_n C dX5_append_29 rfl ?_
      refine gx_dup C dX5_append_30 rfl ?_
      refine gx_get C fd_X5_append_13 (hG := by rw [gU_n (by omega)]; exact h1) (hv := by rfl) dX5_append_31 ?_
      refine gx_iconst (v := 1) C dX5_append_34 (by decide) ?_
      refine gx_iadd C dX5_append_35 ?_
      refine gx_put C fd_X5_append_13 tyX5_ok nmX5 rfl rfl rfl (hG := by rw [gU_n (by omega)]; exact h1) (hl := by exact Nat.le_of_ble_eq_true rfl) dX5_append_36 ?_
      refine gx_vret (mc := 0) C ?_ dX5_append_39
      first
        | exact ⟨rfl, by rw [lapp, if_neg hi]; exact hr, gOut_rf⟩
        | refine ⟨rfl, ?_, gOut_up (gOut_up gOut_rf (by omega)) (by omega)⟩
          rw [lapp, if_pos hi]
          refine gRow_mk gU_s (by rw [gU_n (by omega)]; exact gU_s) (by rw [List.length_append]; exact nI_1 xs.length) (by rw [List.length_append]; exact hi) h4 ?_
          intro i hx
          rw [nI_clamp hn]
          by_cases q : i = xs.length
          · subst q; simp [upd]
          · have q2 : i < xs.length := by rw [List.length_append] at hx; simp at hx; omega
            rw [List.getElem_append_left q2, ← h5 i q2]; simp [upd, q]
set_option maxHeartbeats 4000000 in
set_option maxRecDepth 100000 in
/-- Row.cutTo -/
theorem k5_cutTo (l : Launch) (D : gD) (A : Nat → Prop) (hs : Nat) {G : gH} {r cap : Nat} {xs : List Int32} (n : Int32) (hr : gRow D G r cap xs) : gM l yX5_cutTo wsX5_cutTo (gR 0) D A hs 0 0 [.ref r, .int n] G (gPv fun G' => gRow D G' r cap (lcut xs n) ∧ gOut r 2 G G') := by
  refine gM_intro (by decide) rfl rfl (Nat.le_of_ble_eq_true rfl) ?_
  intro p e s m args below meth c C
  obtain ⟨f, h1, h2, h3, h4, h5⟩ := id hr
  have hn : xs.length < 2 ^ 31 := by omega
  refine gx_iload_n C dX5_cutTo_0 rfl ?_
  refine gx_if_lt (tgt := 17) C dX5_cutTo_1 (by decide) (fun c_1 => ?_) (fun c_1 => ?_)
  · have hi := gIn_f0 (n := xs.length) c_1
    refine gx_vret (mc := 0) C ?_ dX5_cutTo_17
    first
      | exact ⟨rfl, by rw [lcut, hi]; exact hr, gOut_rf⟩
      | obtain ⟨j, hj, rfl⟩ := gIn_ex hi hn
        refine ⟨rfl, ?_, gOut_up gOut_rf (by omega)⟩
        rw [lcut, if_pos hi, nI_clamp (by omega)]
        refine gRow_mk gU_s (by rw [gU_n (by omega)]; exact h2) (by rw [List.length_take, Nat.min_eq_left (by omega)]) (by rw [List.length_take]; omega) h4 ?_
        intro i hx
        rw [List.getElem_take]
        exact h5 i _
  · refine gx_iload_n C dX5_cutTo_4 rfl ?_
    refine gx_aload_n C dX5_cutTo_5 rfl ?_
    refine gx_get C fd_X5_cutTo_13 (hG := h1) (hv := by rfl) dX5_cutTo_6 ?_
    refine gx_icmp_ge (tgt := 17) C dX5_cutTo_9 (by decide) (fun c_9 => ?_) (fun c_9 => ?_)
    · have hi := gIn_f1 c_9 hn
      refine gx_vret (mc := 0) C ?_ dX5_cutTo_17
      first
        | exact ⟨rfl, by rw [lcut, hi]; exact hr, gOut_rf⟩
        | obtain ⟨j, hj, rfl⟩ := gIn_ex hi hn
          refine ⟨rfl, ?_, gOut_up gOut_rf (by omega)⟩
          rw [lcut, if_pos hi, nI_clamp (by omega)]
          refine gRow_mk gU_s (by rw [gU_n (by omega)]; exact h2) (by rw [List.length_take, Nat.min_eq_left (by omega)]) (by rw [List.length_take]; omega) h4 ?_
          intro i hx
          rw [List.getElem_take]
          exact h5 i _
    · have hi := gIn_t c_1 c_9 hn
      refine gx_aload_n C dX5_cutTo_12 rfl ?_
      refine gx_iload_n C dX5_cutTo_13 rfl ?_
      refine gx_put C fd_X5_cutTo_13 tyX5_ok nmX5 rfl rfl rfl (hG := h1) (hl := by exact Nat.le_of_ble_eq_true rfl) dX5_cutTo_14 ?_
      refine gx_vret (mc := 0) C ?_ dX5_cutTo_17
      first
        | exact ⟨rfl, by rw [lcut, hi]; exact hr, gOut_rf⟩
        | obtain ⟨j, hj, rfl⟩ := gIn_ex hi hn
          refine ⟨rfl, ?_, gOut_up gOut_rf (by omega)⟩
          rw [lcut, if_pos hi, nI_clamp (by omega)]
          refine gRow_mk gU_s (by rw [gU_n (by omega)]; exact h2) (by rw [List.length_take, Nat.min_eq_left (by omega)]) (by rw [List.length_take]; omega) h4 ?_
          intro i hx
          rw [List.getElem_take]
          exact h5 i _
set_option maxHeartbeats 4000000 in
set_option maxRecDepth 100000 in
/-- Row.placeOf -/
theorem k5_placeOf (l : Launch) (D : gD) (A : Nat → Prop) (hs : Nat) {G : gH} {r cap : Nat} {xs : List Int32} (v : Int32) (hr : gRow D G r cap xs) : gM l yX5_placeOf wsX5_placeOf (gR 2) D A hs 0 0 [.ref r, .int v] G (gPi fun x G' => x = lidx xs v ∧ G' = G) := by
  refine gM_intro (by decide) rfl rfl (Nat.le_of_ble_eq_true rfl) ?_
  intro p e s m args below meth c C
  obtain ⟨f, h1, h2, h3, h4, h5⟩ := id hr
  have hn : xs.length < 2 ^ 31 := by omega
  have hloop : ∀ (n j : Nat), xs.length < j + n → j ≤ xs.length → (∀ a, a < j → ¬ xs.getD a 0 = v) → gX p l e (gR 2) s m args below meth c D A 3 hs 0 0 (MQ below (gQ D A hs 0 (gPi fun x G' => x = lidx xs v ∧ G' = G)) args s 0 0 A) G [some (.ref r), some (.int v), some (.int (nI j))] 2 [] := by
    intro n
    induction n with
    | zero => intro j hm hj0 hI; exact absurd hm (by omega)
    | succ n ih =>
      intro j hm hj0 hI
      refine gx_iload_n C dX5_placeOf_2 rfl ?_
      refine gx_aload_n C dX5_placeOf_3 rfl ?_
      refine gx_get C fd_X5_placeOf_13 (hG := h1) (hv := by rfl) dX5_placeOf_4 ?_
      refine gx_icmp_ge (tgt := 27) C dX5_placeOf_7 (by decide) (fun c_7 => ?_) (fun c_7 => ?_)
      · have hj : ¬ j < xs.length := fun q => nI_ge q (by omega) c_7
        refine gx_iconst (v := (-1)) C dX5_placeOf_27 (by decide) ?_
        refine gx_zret (mc := 0) C rfl ?_ dX5_placeOf_28
        exact ⟨_, rfl, gz_idn (by omega) hI, rfl⟩
      · have hj : j < xs.length := by
          rcases Nat.lt_or_ge j xs.length with q | q
          · exact q
          · exact absurd (nI_le q (by omega)) c_7
        refine gx_aload_n C dX5_placeOf_10 rfl ?_
        refine gx_iload_n C dX5_placeOf_11 rfl ?_
        refine gx_callV (ci := 4) (T := TX5) (N := 2) C (k5_get l D A hs (nI j) hr) cb_X5_placeOf__X5_get gX5_placeOf_X5_get rfl (hG := h1) rfl rfl (Nat.le_of_ble_eq_true rfl) ⟨Nat.le_refl _, Nat.le_refl _⟩ dX5_placeOf_12 (gx_ki fun r_12 G_12 h_12 => ?_)
        obtain ⟨rfl, rfl⟩ := h_12
        refine gx_iload_n C dX5_placeOf_15 rfl ?_
        refine gx_icmp_ne (tgt := 21) C dX5_placeOf_16 (by decide) (fun c_16 => ?_) (fun c_16 => ?_)
        · rw [lget_nI (by omega)] at c_16
          first | refine gx_iincN C dX5_placeOf_21 rfl (by decide) ?_ | refine gx_iinc1 C dX5_placeOf_21 rfl (by decide) ?_
          refine gx_goto (tgt := 2) C dX5_placeOf_24 (by decide) ?_
          exact ih (j + 1) (by omega) (by omega) (fun a ha => by
            rcases Nat.lt_or_ge a j with q | q
            · exact hI a q
            · have e2 : a = j := by omega
              subst e2; exact c_16)
        · rw [lget_nI (by omega)] at c_16
          refine gx_iload_n C dX5_placeOf_19 rfl ?_
          refine gx_zret (mc := 0) C rfl ?_ dX5_placeOf_20
          exact ⟨_, rfl, gz_idx hj c_16 hI, rfl⟩
  refine gx_iconst (v := 0) C dX5_placeOf_0 (by decide) ?_
  refine gx_istore_n C dX5_placeOf_1 (by decide) ?_
  exact hloop (xs.length + 1) 0 (by omega) (by omega) (fun a ha => absurd ha (by omega))
