/-! THE MODEL: its calls that change it, the first -/
theorem gz_o {x : Int32} (hb : x = 0 ∨ x = 1) (h : 1 - x = 0) : x = 1 := by
  rcases hb with rfl | rfl
  · exact absurd h (by decide)
  · rfl
theorem gz_p {x : Int32} (h : ¬ 1 - x = 0) : ¬ x = 1 := fun q => h (by rw [q]; rfl)
theorem gz_if1 {c : Prop} [Decidable c] (h : ¬ (if c then (1 : Int32) else 0) = 0) : c := by
  by_cases q : c
  · exact q
  · exact absurd (if_neg q) h
theorem gz_if0 {c : Prop} [Decidable c] (h : (if c then (1 : Int32) else 0) = 0) : ¬ c := fun q => by
  rw [if_pos q] at h
  exact absurd h (by decide)
theorem gDs_eq {xs : List Int32} {i : Nat} {x : Int32} (h : i < xs.length) : (xs.set i x).getD i 0 = x := by
  rw [List.getD_eq_getElem?_getD, List.getElem?_set_self h]
  rfl
theorem gDs_ne {xs : List Int32} {i j : Nat} {x : Int32} (h : i ≠ j) : (xs.set i x).getD j 0 = xs.getD j 0 := by
  rw [List.getD_eq_getElem?_getD, List.getElem?_set_ne h, ← List.getD_eq_getElem?_getD]
theorem gDa_l {α : Type} {xs ys : List α} {i : Nat} {d : α} (h : i < xs.length) : (xs ++ ys).getD i d = xs.getD i d := by
  rw [List.getD_eq_getElem?_getD, List.getElem?_append_left h, ← List.getD_eq_getElem?_getD]
theorem gDa_r {α : Type} {xs : List α} {y : α} {d : α} : (xs ++ [y]).getD xs.length d = y := by
  rw [List.getD_eq_getElem?_getD, List.getElem?_append_right (Nat.le_refl _), Nat.sub_self]
  rfl
theorem len_1 {α : Type} {xs : List α} {y : α} : (xs ++ [y]).length = xs.length + 1 := by
  rw [List.length_append]
  rfl
theorem cpy_s0 {pa st : Nat → Int32} {j : Nat} : upd (cpy pa st 0 j) j (st j) = cpy pa st 0 (j + 1) := by
  have := @cpy_s pa st 0 j
  rw [Nat.zero_add] at this
  exact this
theorem cpy_in {pa st : Nat → Int32} {b n q : Nat} (h : b ≤ q ∧ q < b + n) : cpy pa st b n q = st (q - b) := if_pos h
theorem cpy_out {pa st : Nat → Int32} {b n q : Nat} (h : ¬ (b ≤ q ∧ q < b + n)) : cpy pa st b n q = pa q := if_neg h
theorem oUndo_s {t : TS} {n : Nat} (h : t.2.1.length = n + 1) : oUndo t = (nI n, (t.2.1.getD n svD, t.2.1.dropLast, t.2.2)) := by
  have e1 : t.2.1.getLast? = some (t.2.1.getD n svD) := by
    rw [List.getLast?_eq_getElem?, h, List.getD_eq_getElem?_getD, Nat.add_sub_cancel, List.getElem?_eq_getElem (by omega)]
    rfl
  unfold oUndo
  rw [e1]
  show (nI t.2.1.dropLast.length, _) = _
  rw [List.length_dropLast, h]
  rfl
theorem hiR_dl {pa : Nat → Int32} {hi : List SV} {n : Nat} (h : hiR pa hi) (hn : hi.length = n + 1) : hiR pa hi.dropLast := by
  have hl : hi.dropLast.length = n := by rw [List.length_dropLast, hn]; rfl
  have h0 := h.1
  refine ⟨by omega, fun i hi2 => ?_⟩
  have e : hi.dropLast.getD i svD = hi.getD i svD := by
    rw [List.dropLast_eq_take, List.getD_eq_getElem?_getD, List.getElem?_take_of_lt (by omega), ← List.getD_eq_getElem?_getD]
  rw [e]
  exact h.2 i (by omega)
theorem sR_put {st : Nat → Int32} {v : SV} {c : Int32} (h : sR st v) (hl : v.1.length < 100) (h1 : 32 ≤ c) (h2 : c ≤ 126) : sR (upd (upd st (27 + v.1.length) c) 0 (nI (v.1.length + 1))) (v.1 ++ [c], v.2) := by
  obtain ⟨g0, g1, g2, g3, g4, g5, g6⟩ := h
  have hk : v.1.length ≤ (v.1 ++ [c]).length := by rw [len_1]; omega
  refine ⟨⟨by rw [pk_us, len_1], by rw [len_1]; omega, fun i hi => ?_⟩, by rw [pk_un (by omega), pk_un (by omega)]; exact g1, sSh_cg g2 hk (fun q hq hb => by rw [pk_un (by omega), pk_un (by omega)]), sLi_cg g3 hk (fun q hq hb => by rw [pk_un (by omega), pk_un (by omega)]), sAc_cg g4 (fun q hq hb => by rw [pk_un (by omega), pk_un (by omega)]), g5, g6⟩
  rw [len_1] at hi
  by_cases q : i < v.1.length
  · rw [gDa_l q, pk_un (by omega), pk_un (by omega)]
    exact g0.2.2 i q
  · have e : i = v.1.length := by omega
    subst e
    rw [gDa_r, pk_un (by omega), pk_us]
    exact ⟨rfl, h1, h2⟩
theorem sR_beg {st : Nat → Int32} {v : SV} (h : sR st v) {x : Int32} : sR (upd st 1 x) (v.1, x, v.2.2) := by
  obtain ⟨g0, g1, g2, g3, g4, g5, g6⟩ := h
  exact ⟨sTx_cg g0 (fun q hq hb => by rw [pk_un (by omega)]), pk_us, sSh_cg g2 (Nat.le_refl _) (fun q hq hb => by rw [pk_un (by omega)]), sLi_cg g3 (Nat.le_refl _) (fun q hq hb => by rw [pk_un (by omega)]), sAc_cg g4 (fun q hq hb => by rw [pk_un (by omega)]), g5, g6⟩
section SAC
variable {st f : Nat → Int32} {ac : ML} {k : Nat} {y : Int32}
theorem sAc_0 (h : sAc st ac) (hk : k < 5) (e1 : f (4 + k) = ac.1.getD k 0 + y) (e : ∀ q : Nat, 4 ≤ q ∧ q < 27 → q ≠ 4 + k → f q = st q) : sAc f (lset ac.1 (nI k) (lget ac.1 (nI k) + y), ac.2) := by
  obtain ⟨h0, h1, h2, h3, h4, h5⟩ := h
  rw [lset_nI (by omega), lget_nI (by omega)]
  refine ⟨by show (ac.1.set k _).length = 5; rw [List.length_set]; exact h0, h1, h2, h3, fun i hi => ?_, fun i hi => ?_⟩
  · show f (4 + i) = (ac.1.set k _).getD i 0
    by_cases q : i = k
    · subst q
      rw [gDs_eq (by omega)]
      exact e1
    · rw [gDs_ne (Ne.symm q), e _ (by omega) (by omega)]
      exact h4 i hi
  · obtain ⟨g0, g1, g2⟩ := h5 i hi
    exact ⟨by rw [e _ (by omega) (by omega)]; exact g0, by rw [e _ (by omega) (by omega)]; exact g1, by rw [e _ (by omega) (by omega)]; exact g2⟩
theorem sAc_1 (h : sAc st ac) (hk : k < 6) (e1 : f (9 + 3 * k) = ac.2.1.getD k 0 + y) (e : ∀ q : Nat, 4 ≤ q ∧ q < 27 → q ≠ 9 + 3 * k → f q = st q) : sAc f (ac.1, lset ac.2.1 (nI k) (lget ac.2.1 (nI k) + y), ac.2.2) := by
  obtain ⟨h0, h1, h2, h3, h4, h5⟩ := h
  rw [lset_nI (by omega), lget_nI (by omega)]
  refine ⟨h0, by show (ac.2.1.set k _).length = 6; rw [List.length_set]; exact h1, h2, h3, fun i hi => by rw [e _ (by omega) (by omega)]; exact h4 i hi, fun i hi => ?_⟩
  obtain ⟨g0, g1, g2⟩ := h5 i hi
  refine ⟨?_, by rw [e _ (by omega) (by omega)]; exact g1, by rw [e _ (by omega) (by omega)]; exact g2⟩
  show f (9 + 3 * i) = (ac.2.1.set k _).getD i 0
  by_cases q : i = k
  · subst q
    rw [gDs_eq (by omega)]
    exact e1
  · rw [gDs_ne (Ne.symm q), e _ (by omega) (by omega)]
    exact g0
theorem sAc_2 (h : sAc st ac) (hk : k < 6) (e1 : f (9 + 3 * k + 1) = ac.2.2.1.getD k 0 + y) (e : ∀ q : Nat, 4 ≤ q ∧ q < 27 → q ≠ 9 + 3 * k + 1 → f q = st q) : sAc f (ac.1, ac.2.1, lset ac.2.2.1 (nI k) (lget ac.2.2.1 (nI k) + y), ac.2.2.2) := by
  obtain ⟨h0, h1, h2, h3, h4, h5⟩ := h
  rw [lset_nI (by omega), lget_nI (by omega)]
  refine ⟨h0, h1, by show (ac.2.2.1.set k _).length = 6; rw [List.length_set]; exact h2, h3, fun i hi => by rw [e _ (by omega) (by omega)]; exact h4 i hi, fun i hi => ?_⟩
  obtain ⟨g0, g1, g2⟩ := h5 i hi
  refine ⟨by rw [e _ (by omega) (by omega)]; exact g0, ?_, by rw [e _ (by omega) (by omega)]; exact g2⟩
  show f (9 + 3 * i + 1) = (ac.2.2.1.set k _).getD i 0
  by_cases q : i = k
  · subst q
    rw [gDs_eq (by omega)]
    exact e1
  · rw [gDs_ne (Ne.symm q), e _ (by omega) (by omega)]
    exact g1
theorem sAc_3 (h : sAc st ac) (hk : k < 6) (e1 : f (9 + 3 * k + 2) = ac.2.2.2.getD k 0 + y) (e : ∀ q : Nat, 4 ≤ q ∧ q < 27 → q ≠ 9 + 3 * k + 2 → f q = st q) : sAc f (ac.1, ac.2.1, ac.2.2.1, lset ac.2.2.2 (nI k) (lget ac.2.2.2 (nI k) + y)) := by
  obtain ⟨h0, h1, h2, h3, h4, h5⟩ := h
  rw [lset_nI (by omega), lget_nI (by omega)]
  refine ⟨h0, h1, h2, by show (ac.2.2.2.set k _).length = 6; rw [List.length_set]; exact h3, fun i hi => by rw [e _ (by omega) (by omega)]; exact h4 i hi, fun i hi => ?_⟩
  obtain ⟨g0, g1, g2⟩ := h5 i hi
  refine ⟨by rw [e _ (by omega) (by omega)]; exact g0, by rw [e _ (by omega) (by omega)]; exact g1, ?_⟩
  show f (9 + 3 * i + 2) = (ac.2.2.2.set k _).getD i 0
  by_cases q : i = k
  · subst q
    rw [gDs_eq (by omega)]
    exact e1
  · rw [gDs_ne (Ne.symm q), e _ (by omega) (by omega)]
    exact g2
end SAC
theorem pShN_le {x y : List SH} {k : Int32} {n : Nat} (h : ∀ i : Nat, i < n → (x.getD i shD).2.1 = k → (y.getD i shD).2.1 = k) : pShN x k n ≤ pShN y k n := by
  unfold pShN
  refine List.countP_mono_left (fun i hi h2 => ?_)
  exact decide_eq_true (h i (List.mem_range.mp hi) (of_decide_eq_true h2))
theorem pShN_1 {x : List SH} {k : Int32} {n : Nat} : pShN x k n ≤ pShN x k (n + 1) := by
  unfold pShN
  rw [List.range_succ, List.countP_append]
  exact Nat.le_add_right _ _
theorem sR_send {st f : Nat → Int32} {v : SV} {r n : Nat} (h : sR st v) (hn : n = v.2.2.1.length) (h8 : n < 8) (hr : r < 6) (e2 : f 2 = nI (n + 1)) (ea : f (9 + 3 * r) = v.2.2.2.2.2.1.getD r 0 + 1) (eb : f (127 + 35 * n) = nI r) (ez : ∀ i : Nat, 0 < i → i < 35 → f (127 + 35 * n + i) = 0)
    (e : ∀ q : Nat, q < 855 → q ≠ 2 → q ≠ 9 + 3 * r → (q < 127 + 35 * n ∨ 127 + 35 * n + 35 ≤ q) → f q = st q) : sR f (v.1, v.2.1, v.2.2.1 ++ [(nI r, 0, [])], v.2.2.2.1, (v.2.2.2.2.1, lset v.2.2.2.2.2.1 (nI r) (lget v.2.2.2.2.2.1 (nI r) + 1), v.2.2.2.2.2.2)) := by
  obtain ⟨g0, g1, g2, g3, g4, g5, g6⟩ := h
  subst hn
  have hl : (v.2.2.1 ++ [((nI r, 0, []) : SH)]).length = v.2.2.1.length + 1 := len_1
  refine ⟨sTx_cg g0 (fun q hq hb => e q hq (by omega) (by omega) (by omega)), by rw [e 1 (by omega) (by omega) (by omega) (by omega)]; exact g1, ⟨by rw [e2]; show nI _ = nI (v.2.2.1 ++ _).length; rw [hl], by show (v.2.2.1 ++ _).length ≤ 8; rw [hl]; omega, fun i hi => ?_⟩, sLi_cg g3 (Nat.le_refl _) (fun q hq hb => e q hq (by omega) (by omega) (by omega)), sAc_1 g4 hr ea (fun q hq hb => e q (by omega) (by omega) hb (by omega)), g5, ?_⟩
  · have hi : i < (v.2.2.1 ++ [((nI r, 0, []) : SH)]).length := hi
    rw [hl] at hi
    by_cases q : i < v.2.2.1.length
    · show shR f (127 + 35 * i) ((v.2.2.1 ++ _).getD i shD) _
      rw [gDa_l q]
      exact shR_cg (g2.2.2 i q) (Nat.le_refl _) (fun j hj => e _ (by omega) (by omega) (by omega) (by omega))
    · have e : i = v.2.2.1.length := by omega
      subst e
      show shR f (127 + 35 * v.2.2.1.length) ((v.2.2.1 ++ _).getD v.2.2.1.length shD) _
      rw [gDa_r]
      exact ⟨eb, ez 1 (by decide) (by decide), ez 2 (by decide) (by decide), Nat.zero_le _, ⟨r, hr, rfl⟩, ⟨0, by decide, rfl⟩, fun k hk => absurd hk (Nat.not_lt_zero _)⟩
  · show v.2.2.2.1.1.length ≤ 8 * pShN (v.2.2.1 ++ _) 3 (v.2.2.1 ++ [((nI r, 0, []) : SH)]).length
    rw [hl]
    have q1 : pShN v.2.2.1 3 v.2.2.1.length ≤ pShN (v.2.2.1 ++ [((nI r, 0, []) : SH)]) 3 v.2.2.1.length := pShN_le (fun i hi hq => by rw [gDa_l hi]; exact hq)
    have q2 := @pShN_1 (v.2.2.1 ++ [((nI r, 0, []) : SH)]) 3 v.2.2.1.length
    have q3 : v.2.2.2.1.1.length ≤ 8 * pShN v.2.2.1 3 v.2.2.1.length := g6
    omega
theorem gSs_eq {xs : List SH} {i : Nat} {x : SH} (h : i < xs.length) : (xs.set i x).getD i shD = x := gD_set h
theorem gSs_ne {xs : List SH} {i j : Nat} {x : SH} (h : i ≠ j) : (xs.set i x).getD j shD = xs.getD j shD := by
  rw [List.getD_eq_getElem?_getD, List.getElem?_set_ne h, ← List.getD_eq_getElem?_getD]
theorem sR_stat {st f : Nat → Int32} {v : SV} {j k : Nat} (h : sR st v) (hj : j < v.2.2.1.length) (hk : k < 4) (h3 : (v.2.2.1.getD j shD).2.1 = 3 → nI k = 3) (e1 : f (127 + 35 * j + 1) = nI k) (e : ∀ q : Nat, q < 855 → q ≠ 127 + 35 * j + 1 → f q = st q) : sR f (v.1, v.2.1, v.2.2.1.set j ((v.2.2.1.getD j shD).1, nI k, (v.2.2.1.getD j shD).2.2), v.2.2.2) := by
  obtain ⟨g0, g1, g2, g3, g4, g5, g6⟩ := h
  have j8 := g2.2.1
  refine ⟨sTx_cg g0 (fun q hq hb => e q hq (by omega)), by rw [e 1 (by omega) (by omega)]; exact g1, ⟨?_, ?_, fun i hi => ?_⟩, sLi_cg g3 (Nat.le_refl _) (fun q hq hb => e q hq (by omega)), sAc_cg g4 (fun q hq hb => e q hq (by omega)), g5, ?_⟩
  · rw [e 2 (by omega) (by omega)]
    show st 2 = nI (v.2.2.1.set j _).length
    rw [List.length_set]
    exact g2.1
  · show (v.2.2.1.set j _).length ≤ 8
    rw [List.length_set]
    exact j8
  · have hi2 : i < v.2.2.1.length := by
      have hi3 : i < (v.2.2.1.set j _).length := hi
      rw [List.length_set] at hi3
      exact hi3
    show shR f (127 + 35 * i) ((v.2.2.1.set j _).getD i shD) _
    by_cases q : i = j
    · subst q
      rw [gSs_eq hj]
      obtain ⟨c0, c1, c2, c3, c4, c5, c6⟩ := g2.2.2 i hj
      refine ⟨by rw [e _ (by omega) (by omega)]; exact c0, e1, by rw [e _ (by omega) (by omega)]; exact c2, c3, c4, ⟨k, hk, rfl⟩, fun b hb => ⟨mkR_cg (c6 b hb).1 (fun y hy => ?_), (c6 b hb).2⟩⟩
      have hb8 : b < (v.2.2.1.getD i shD).2.2.length := hb
      exact e _ (by omega) (by omega)
    · rw [gSs_ne (Ne.symm q)]
      exact shR_cg (g2.2.2 i hi2) (Nat.le_refl _) (fun y hy => e _ (by omega) (by omega))
  · show v.2.2.2.1.1.length ≤ 8 * pShN (v.2.2.1.set j _) 3 (v.2.2.1.set j _).length
    rw [List.length_set]
    have q1 : pShN v.2.2.1 3 v.2.2.1.length ≤ pShN (v.2.2.1.set j ((v.2.2.1.getD j shD).1, nI k, (v.2.2.1.getD j shD).2.2)) 3 v.2.2.1.length := pShN_le (fun i hi hq => by
      by_cases q : i = j
      · subst q
        rw [gSs_eq hj]
        exact h3 hq
      · rw [gSs_ne (Ne.symm q)]
        exact hq)
    have q3 : v.2.2.2.1.1.length ≤ 8 * pShN v.2.2.1 3 v.2.2.1.length := g6
    omega
theorem tyR_1 {ty : Nat → Int32} {xs : List Int32} {c : Int32} (h : tyR ty xs) (hl : xs.length < 80) (h1 : 32 ≤ c) (h2 : c ≤ 126) : tyR (upd ty xs.length c) (xs ++ [c]) := by
  refine ⟨by rw [len_1]; omega, fun i hi => ?_⟩
  rw [len_1] at hi
  by_cases q : i < xs.length
  · rw [gDa_l q, pk_un (by omega)]
    exact h.2 i q
  · have e : i = xs.length := by omega
    subst e
    rw [gDa_r, pk_us]
    exact ⟨rfl, h1, h2⟩
theorem pOut_0 {v a b : Int32} (h : ¬ pOut v a b = 1) : a ≤ v ∧ v ≤ b := by
  by_cases q : v < a ∨ b < v
  · exact absurd (if_pos q) h
  · exact ⟨Int32.not_lt.mp (fun y => q (Or.inl y)), Int32.not_lt.mp (fun y => q (Or.inr y))⟩
theorem pRd {z : Int32} (h : ¬ pOut z 0 5 = 1) : ∃ r : Nat, r < 6 ∧ z = nI r := by
  have h2 := pOut_0 h
  rcases pk_ix z (n := 6) (by decide) with q | q | q
  · exact absurd q (Int32.not_lt.mpr h2.1)
  · exact absurd (Int32.le_trans q h2.2) (by decide)
  · exact q
set_option maxRecDepth 20000 in
theorem in_X9_undo_X9 : ∀ w ∈ wsX90, w ∈ wsX9_undo := by decide +kernel
set_option maxRecDepth 20000 in
theorem fd_X9_undo_25 : gFd wsX9_undo RX9 25 8 RX9 TX9 11 2 := ⟨in_X9_undo_X9, rfl, by decide, by decide +kernel⟩
set_option maxRecDepth 20000 in
theorem fd_X9_undo_7 : gFd wsX9_undo RX9 7 8 RX9 TX9 11 0 := ⟨in_X9_undo_X9, rfl, by decide, by decide +kernel⟩
set_option maxRecDepth 20000 in
theorem fd_X9_undo_13 : gFd wsX9_undo RX9 13 8 RX9 TX9 11 1 := ⟨in_X9_undo_X9, rfl, by decide, by decide +kernel⟩
theorem cb_X9_put__X9_in : gCb yX9_in cX9_in 3 (some .boolean) wsX9_in (gR 0) (gR 1) 0 0 3 := ⟨rfl, rfl, rfl, by decide +kernel, by decide⟩
set_option maxRecDepth 20000 in
theorem in_X9_put_X9 : ∀ w ∈ wsX90, w ∈ wsX9_put := by decide +kernel
set_option maxRecDepth 20000 in
theorem fd_X9_put_7 : gFd wsX9_put RX9 7 8 RX9 TX9 11 0 := ⟨in_X9_put_X9, rfl, by decide, by decide +kernel⟩
theorem cb_X9_put__X9_records : gCb yX9_records cX9_records 2 none wsX9_records (gR 0) (gR 1) 0 0 0 := ⟨rfl, rfl, rfl, by decide +kernel, by decide⟩
set_option maxRecDepth 20000 in
theorem in_X9_begin_X9 : ∀ w ∈ wsX90, w ∈ wsX9_begin := by decide +kernel
set_option maxRecDepth 20000 in
theorem fd_X9_begin_7 : gFd wsX9_begin RX9 7 8 RX9 TX9 11 0 := ⟨in_X9_begin_X9, rfl, by decide, by decide +kernel⟩
theorem cb_X9_begin__X9_records : gCb yX9_records cX9_records 2 none wsX9_records (gR 0) (gR 1) 0 0 0 := ⟨rfl, rfl, rfl, by decide +kernel, by decide⟩
theorem cb_X9_becomes__X9_records : gCb yX9_records cX9_records 2 none wsX9_records (gR 0) (gR 1) 0 0 0 := ⟨rfl, rfl, rfl, by decide +kernel, by decide⟩
set_option maxRecDepth 20000 in
theorem in_X9_becomes_X9 : ∀ w ∈ wsX90, w ∈ wsX9_becomes := by decide +kernel
set_option maxRecDepth 20000 in
theorem fd_X9_becomes_7 : gFd wsX9_becomes RX9 7 8 RX9 TX9 11 0 := ⟨in_X9_becomes_X9, rfl, by decide, by decide +kernel⟩
theorem cb_X9_becomes__X9_sheetAt : gCb yX9_sheetAt cX9_sheetAt 1 (some .int) wsX9_sheetAt (gR 0) (gR 1) 0 0 1 := ⟨rfl, rfl, rfl, by decide +kernel, by decide⟩
theorem cb_X9_becomes__X9_of : gCb yX9_of cX9_of 3 (some .int) wsX9_of (gR 0) (gR 1) 0 0 2 := ⟨rfl, rfl, rfl, by decide +kernel, by decide⟩
theorem cb_X9_bring__X9_isSheet : gCb yX9_isSheet cX9_isSheet 2 (some .boolean) wsX9_isSheet (gR 1) (gR 2) 0 0 1 := ⟨rfl, rfl, rfl, by decide +kernel, by decide⟩
theorem cb_X9_bring__X9_of : gCb yX9_of cX9_of 3 (some .int) wsX9_of (gR 0) (gR 2) 0 0 2 := ⟨rfl, rfl, rfl, by decide +kernel, by decide⟩
theorem cb_X9_bring__X9_becomes : gCb yX9_becomes cX9_becomes 3 (some .int) wsX9_becomes (gR 1) (gR 2) 0 0 2 := ⟨rfl, rfl, rfl, by decide +kernel, by decide⟩
theorem cb_X9_find__X9_isSheet : gCb yX9_isSheet cX9_isSheet 2 (some .boolean) wsX9_isSheet (gR 1) (gR 2) 0 0 1 := ⟨rfl, rfl, rfl, by decide +kernel, by decide⟩
theorem cb_X9_find__X9_of : gCb yX9_of cX9_of 3 (some .int) wsX9_of (gR 0) (gR 2) 0 0 2 := ⟨rfl, rfl, rfl, by decide +kernel, by decide⟩
theorem cb_X9_find__X9_becomes : gCb yX9_becomes cX9_becomes 3 (some .int) wsX9_becomes (gR 1) (gR 2) 0 0 2 := ⟨rfl, rfl, rfl, by decide +kernel, by decide⟩
theorem cb_X9_lose__X9_isSheet : gCb yX9_isSheet cX9_isSheet 2 (some .boolean) wsX9_isSheet (gR 1) (gR 2) 0 0 1 := ⟨rfl, rfl, rfl, by decide +kernel, by decide⟩
theorem cb_X9_lose__X9_of : gCb yX9_of cX9_of 3 (some .int) wsX9_of (gR 0) (gR 2) 0 0 2 := ⟨rfl, rfl, rfl, by decide +kernel, by decide⟩
theorem cb_X9_lose__X9_becomes : gCb yX9_becomes cX9_becomes 3 (some .int) wsX9_becomes (gR 1) (gR 2) 0 0 2 := ⟨rfl, rfl, rfl, by decide +kernel, by decide⟩
set_option maxRecDepth 20000 in
theorem in_X9_send_X9 : ∀ w ∈ wsX90, w ∈ wsX9_send := by decide +kernel
set_option maxRecDepth 20000 in
theorem fd_X9_send_7 : gFd wsX9_send RX9 7 8 RX9 TX9 11 0 := ⟨in_X9_send_X9, rfl, by decide, by decide +kernel⟩
theorem cb_X9_send__X9_sheetAt : gCb yX9_sheetAt cX9_sheetAt 1 (some .int) wsX9_sheetAt (gR 0) (gR 2) 0 0 1 := ⟨rfl, rfl, rfl, by decide +kernel, by decide⟩
theorem cb_X9_send__X9_isReader : gCb yX9_isReader cX9_isReader 1 (some .boolean) wsX9_isReader (gR 1) (gR 2) 0 0 1 := ⟨rfl, rfl, rfl, by decide +kernel, by decide⟩
theorem cb_X9_send__X9_isBusy : gCb yX9_isBusy cX9_isBusy 4 (some .boolean) wsX9_isBusy (gR 1) (gR 2) 0 0 1 := ⟨rfl, rfl, rfl, by decide +kernel, by decide⟩
theorem cb_X9_send__X9_records : gCb yX9_records cX9_records 2 none wsX9_records (gR 0) (gR 2) 0 0 0 := ⟨rfl, rfl, rfl, by decide +kernel, by decide⟩
theorem cb_X9_type__X9_in : gCb yX9_in cX9_in 3 (some .boolean) wsX9_in (gR 0) (gR 1) 0 0 3 := ⟨rfl, rfl, rfl, by decide +kernel, by decide⟩
set_option maxRecDepth 20000 in
theorem in_X9_type_X9 : ∀ w ∈ wsX90, w ∈ wsX9_type := by decide +kernel
set_option maxRecDepth 20000 in
theorem fd_X9_type_101 : gFd wsX9_type RX9 101 8 RX9 TX9 11 4 := ⟨in_X9_type_X9, rfl, by decide, by decide +kernel⟩
set_option maxRecDepth 20000 in
theorem fd_X9_type_16 : gFd wsX9_type RX9 16 8 RX9 TX9 11 3 := ⟨in_X9_type_X9, rfl, by decide, by decide +kernel⟩
set_option maxRecDepth 20000 in
theorem in_X9_clearText_X9 : ∀ w ∈ wsX90, w ∈ wsX9_clearText := by decide +kernel
set_option maxRecDepth 20000 in
theorem fd_X9_clearText_101 : gFd wsX9_clearText RX9 101 8 RX9 TX9 11 4 := ⟨in_X9_clearText_X9, rfl, by decide, by decide +kernel⟩
set_option maxHeartbeats 600000 in
set_option maxRecDepth 100000 in
/-- X9_undo -/
theorem k9_undo (l : Launch) (D : gD) (A : Nat → Prop) (hs : Nat) {G : gH} {G0 : gH} {a : Nat} {t : TS} (h : gMw D G0 G a t) : gM l yX9_undo wsX9_undo (gR 0) D A hs 0 0 [.ref a] G (gPi fun x G' => x = (oUndo t).1 ∧ gMw D G0 G' a (oUndo t).2) := by
  refine gM_intro (by decide) rfl rfl (Nat.le_of_ble_eq_true rfl) ?_
  intro p e s m args below meth c C
  obtain ⟨st, pa, ty, md, rd, w, hM, hR, hH, hT⟩ := h
  have h4 := hH.1
  have ht := hT.1
  have l1 := hR.1.2.1
  have l2 := hR.2.2.1.2.1
  have hone : ∀ (n1 : Nat) (G1 : gH), t.2.1.length = n1 + 1 → gMa D G0 G1 a (nI n1, nI t.2.2.length, w) st pa ty md rd → gX p l e (gR 0) s m args below meth c D A 2 hs 0 0 (MQ below (gQ D A hs 0 (gPi fun x G' => x = (oUndo t).1 ∧ gMw D G0 G' a (oUndo t).2)) args s 0 0 A) G1 [some (.ref a), some (.int (nI 0))] 22 [] := by
    intro n1 G1 hn hM1
    have hloop : ∀ (n j : Nat) (G1 : gH), 855 < j + n → j ≤ 855 → gMa D G0 G1 a (nI n1, nI t.2.2.length, w) (cpy st (fun q => pa (855 * n1 + q)) 0 j) pa ty md rd → gX p l e (gR 0) s m args below meth c D A 2 hs 0 0 (MQ below (gQ D A hs 0 (gPi fun x G' => x = (oUndo t).1 ∧ gMw D G0 G' a (oUndo t).2)) args s 0 0 A) G1 [some (.ref a), some (.int (nI j))] 22 [] := by
      intro n
      induction n with
      | zero => intro j G1 hm hj0 hI; exact absurd hm (by omega)
      | succ n ih =>
        intro j G1 hm hj0 hI
        have hM := hI
        refine gx_iload_n C dX9_undo_22 rfl ?_
        refine gx_sipush (v := nI 855) C dX9_undo_23 (by decide) ?_
        refine gx_icmp_ge (tgt := 56) C dX9_undo_26 (by decide) (fun c_26 => ?_) (fun c_26 => ?_)
        · have hj : ¬ j < 855 := fun q => nI_ge q (by omega) c_26
          refine gx_aload_n C dX9_undo_56 rfl ?_
          refine gx_get C fd_X9_undo_25 (hG := hM.2.1) (hv := by rfl) dX9_undo_57 ?_
          refine gx_zret (mc := 0) C rfl ?_ dX9_undo_60
          have j8 : j = 855 := by omega
          subst j8
          have e := oUndo_s hn
          have hl : t.2.1.dropLast.length = n1 := by rw [List.length_dropLast, hn]; rfl
          obtain ⟨f, hf⟩ : ∃ f, f = cpy st (fun q => pa (855 * n1 + q)) 0 855 := ⟨_, rfl⟩
          rw [← hf] at hM
          have hR2 : sR f (t.2.1.getD n1 svD) := sR_cg (hH.2 n1 (by omega)) (fun q hq => by rw [hf, cpy_in (by omega)]; rfl)
          have hH2 := hiR_dl hH hn
          rw [← hl] at hM
          exact ⟨_, rfl, by rw [e], by rw [e]; exact ⟨f, pa, ty, md, rd, w, hM, hR2, hH2, hT⟩⟩
        · have hj : j < 855 := by
            rcases Nat.lt_or_ge (j) (855) with q | q
            · exact q
            · exact absurd (nI_le q (by omega)) c_26
          refine gx_aload_n C dX9_undo_29 rfl ?_
          refine gx_get C fd_X9_undo_7 (hG := hM.2.1) (hv := by rfl) dX9_undo_30 ?_
          refine gx_iload_n C dX9_undo_33 rfl ?_
          refine gx_aload_n C dX9_undo_34 rfl ?_
          refine gx_get C fd_X9_undo_13 (hG := hM.2.1) (hv := by rfl) dX9_undo_35 ?_
          refine gx_sipush (v := nI 855) C dX9_undo_38 (by decide) ?_
          refine gx_aload_n C dX9_undo_41 rfl ?_
          refine gx_get C fd_X9_undo_25 (hG := hM.2.1) (hv := by rfl) dX9_undo_42 ?_
          refine gx_imul C dX9_undo_45 ?_
          first | refine gx_top (pk_mul _ _) ?_ | skip
          refine gx_iload_n C dX9_undo_46 rfl ?_
          refine gx_iadd C dX9_undo_47 ?_
          first | refine gx_top (nI_add _ _) ?_ | skip
          refine gx_ialdN C (hG := (by first | exact hM.2.2.1 | exact hM.2.2.2.1 | exact hM.2.2.2.2.1 | exact hM.2.2.2.2.2.1 | exact hM.2.2.2.2.2.2)) (hk := by omega) (hn := by omega) dX9_undo_48 ?_
          refine gx_iastN C (hG := (by first | exact hM.2.2.1 | exact hM.2.2.2.1 | exact hM.2.2.2.2.1 | exact hM.2.2.2.2.2.1 | exact hM.2.2.2.2.2.2)) (hk := by omega) (hn := by omega) dX9_undo_49 ?_
          first | refine gx_iincN C dX9_undo_50 rfl (by decide) ?_ | refine gx_iinc1 C dX9_undo_50 rfl (by decide) ?_
          refine gx_goto (tgt := 22) C dX9_undo_53 (by decide) ?_
          exact ih (j + 1) _ (by omega) (by omega) (by rw [← cpy_s0]; exact gMa_st hM)
    exact hloop 856 0 G1 (by omega) (by omega) (by rw [cpy_0]; exact hM1)
  refine gx_aload_n C dX9_undo_0 rfl ?_
  refine gx_get C fd_X9_undo_25 (hG := hM.2.1) (hv := by rfl) dX9_undo_1 ?_
  refine gx_if_ne (tgt := 10) C dX9_undo_4 (by decide) (fun c_4 => ?_) (fun c_4 => ?_)
  · have q0 : ¬ t.2.1.length = 0 := fun q => c_4 (by rw [q]; rfl)
    obtain ⟨n1, hn⟩ : ∃ n1, t.2.1.length = n1 + 1 := ⟨t.2.1.length - 1, by omega⟩
    refine gx_aload_n C dX9_undo_10 rfl ?_
    refine gx_dup C dX9_undo_11 rfl ?_
    refine gx_get C fd_X9_undo_25 (hG := hM.2.1) (hv := by rfl) dX9_undo_12 ?_
    refine gx_iconst (v := nI 1) C dX9_undo_15 (by decide) ?_
    refine gx_isub C dX9_undo_16 ?_
    refine gx_top (y := nI n1) (by rw [hn]; exact pk_sub (a := n1 + 1) (b := 1) (by omega)) ?_
    refine gx_put C fd_X9_undo_25 tyX9_ok nmX9 rfl rfl rfl (hG := hM.2.1) (hl := by exact Nat.le_of_ble_eq_true rfl) dX9_undo_17 ?_
    have hM := gMa_ob (z' := (nI n1, nI t.2.2.length, w)) hM rfl
    refine gx_iconst (v := 0) C dX9_undo_20 (by decide) ?_
    refine gx_istore_n C dX9_undo_21 (by decide) ?_
    exact hone n1 _ hn hM
  · have q0 : t.2.1.length = 0 := (nI_eq (b := 0) (by omega) (by omega)).mp c_4
    have e : oUndo t = (-2, t) := by
      unfold oUndo
      rw [List.length_eq_zero_iff.mp q0]
      rfl
    refine gx_bipush (v := (-2)) C dX9_undo_7 (by decide) ?_
    refine gx_zret (mc := 0) C rfl ?_ dX9_undo_9
    exact ⟨_, rfl, by rw [e], by rw [e]; exact ⟨st, pa, ty, md, rd, w, hM, hR, hH, hT⟩⟩
set_option maxHeartbeats 600000 in
set_option maxRecDepth 100000 in
/-- X9_put -/
theorem k9_put (l : Launch) (D : gD) (A : Nat → Prop) (hs : Nat) {G : gH} {G0 : gH} {a : Nat} {t : TS} (h : gMw D G0 G a t) (z : Int32) : gM l yX9_put wsX9_put (gR 1) D A hs 0 0 [.ref a, .int z] G (gPi fun x G' => x = (oPut z t).1 ∧ gMw D G0 G' a (oPut z t).2) := by
  refine gM_intro (by decide) rfl rfl (Nat.le_of_ble_eq_true rfl) ?_
  intro p e s m args below meth c C
  obtain ⟨st, pa, ty, md, rd, w, hM, hR, hH, hT⟩ := h
  have h4 := hH.1
  have ht := hT.1
  have l1 := hR.1.2.1
  have l2 := hR.2.2.1.2.1
  refine gx_iload_n C dX9_put_0 rfl ?_
  refine gx_bipush (v := 32) C dX9_put_1 (by decide) ?_
  refine gx_bipush (v := 126) C dX9_put_3 (by decide) ?_
  refine gx_callS C (k9_in l D A hs z 32 126) cb_X9_put__X9_in gX9_put_X9_in rfl rfl (Nat.le_of_ble_eq_true rfl) ⟨Nat.le_refl _, Nat.le_refl _⟩ dX9_put_5 (gx_ki fun r_5 G_5 h_5 => ?_)
  obtain ⟨rfl, rfl⟩ := h_5
  refine gx_if_ne (tgt := 13) C dX9_put_8 (by decide) (fun c_8 => ?_) (fun c_8 => ?_)
  · have e1 := gz_p c_8
    refine gx_aload_n C dX9_put_13 rfl ?_
    refine gx_get C fd_X9_put_7 (hG := hM.2.1) (hv := by rfl) dX9_put_14 ?_
    refine gx_iconst (v := nI 1) C dX9_put_17 (by decide) ?_
    refine gx_ialdN C (hG := (by first | exact hM.2.2.1 | exact hM.2.2.2.1 | exact hM.2.2.2.2.1 | exact hM.2.2.2.2.2.1 | exact hM.2.2.2.2.2.2)) (hk := by omega) (hn := by omega) dX9_put_18 ?_
    rw [hR.2.1]
    refine gx_if_eq (tgt := 25) C dX9_put_19 (by decide) (fun c_19 => ?_) (fun c_19 => ?_)
    · refine gx_aload_n C dX9_put_25 rfl ?_
      refine gx_get C fd_X9_put_7 (hG := hM.2.1) (hv := by rfl) dX9_put_26 ?_
      refine gx_iconst (v := nI 0) C dX9_put_29 (by decide) ?_
      refine gx_ialdN C (hG := (by first | exact hM.2.2.1 | exact hM.2.2.2.1 | exact hM.2.2.2.2.1 | exact hM.2.2.2.2.2.1 | exact hM.2.2.2.2.2.2)) (hk := by omega) (hn := by omega) dX9_put_30 ?_
      rw [hR.1.1]
      refine gx_bipush (v := nI 100) C dX9_put_31 (by decide) ?_
      refine gx_icmp_ne (tgt := 39) C dX9_put_33 (by decide) (fun c_33 => ?_) (fun c_33 => ?_)
      · have q1 : ¬ t.1.1.length = 100 := fun q => c_33 (by rw [q])
        refine gx_aload_n C dX9_put_39 rfl ?_
        refine gx_callV (ci := 8) (T := TX9) (N := 11) C (k9_records l D A hs hM hH hR) cb_X9_put__X9_records gX9_put_X9_records rfl (hG := hM.2.1) rfl rfl (Nat.le_of_ble_eq_true rfl) ⟨Nat.le_refl _, Nat.le_refl _⟩ dX9_put_40 (gx_kv fun G_40 h_40 => ?_)
        have hH0 := hH
        obtain ⟨pa2, hM, hH⟩ := h_40
        refine gx_aload_n C dX9_put_43 rfl ?_
        refine gx_get C fd_X9_put_7 (hG := hM.2.1) (hv := by rfl) dX9_put_44 ?_
        refine gx_bipush (v := nI 27) C dX9_put_47 (by decide) ?_
        refine gx_aload_n C dX9_put_49 rfl ?_
        refine gx_get C fd_X9_put_7 (hG := hM.2.1) (hv := by rfl) dX9_put_50 ?_
        refine gx_iconst (v := nI 0) C dX9_put_53 (by decide) ?_
        refine gx_ialdN C (hG := (by first | exact hM.2.2.1 | exact hM.2.2.2.1 | exact hM.2.2.2.2.1 | exact hM.2.2.2.2.2.1 | exact hM.2.2.2.2.2.2)) (hk := by omega) (hn := by omega) dX9_put_54 ?_
        rw [hR.1.1]
        refine gx_iadd C dX9_put_55 ?_
        first | refine gx_top (nI_add _ _) ?_ | skip
        refine gx_iload_n C dX9_put_56 rfl ?_
        refine gx_iastN C (hG := (by first | exact hM.2.2.1 | exact hM.2.2.2.1 | exact hM.2.2.2.2.1 | exact hM.2.2.2.2.2.1 | exact hM.2.2.2.2.2.2)) (hk := by omega) (hn := by omega) dX9_put_57 ?_
        refine gx_stM hM (fun hM => ?_)
        refine gx_aload_n C dX9_put_58 rfl ?_
        refine gx_get C fd_X9_put_7 (hG := hM.2.1) (hv := by rfl) dX9_put_59 ?_
        refine gx_iconst (v := nI 0) C dX9_put_62 (by decide) ?_
        refine gx_dup2 C dX9_put_63 rfl rfl ?_
        refine gx_ialdN C (hG := (by first | exact hM.2.2.1 | exact hM.2.2.2.1 | exact hM.2.2.2.2.1 | exact hM.2.2.2.2.2.1 | exact hM.2.2.2.2.2.2)) (hk := by omega) (hn := by omega) dX9_put_64 ?_
        rw [pk_un (by omega), hR.1.1]
        refine gx_iconst (v := nI 1) C dX9_put_65 (by decide) ?_
        refine gx_iadd C dX9_put_66 ?_
        first | refine gx_top (nI_add _ _) ?_ | skip
        refine gx_iastN C (hG := (by first | exact hM.2.2.1 | exact hM.2.2.2.1 | exact hM.2.2.2.2.1 | exact hM.2.2.2.2.2.1 | exact hM.2.2.2.2.2.2)) (hk := by omega) (hn := by omega) dX9_put_67 ?_
        refine gx_stM hM (fun hM => ?_)
        refine gx_aload_n C dX9_put_68 rfl ?_
        refine gx_get C fd_X9_put_7 (hG := hM.2.1) (hv := by rfl) dX9_put_69 ?_
        refine gx_iconst (v := nI 0) C dX9_put_72 (by decide) ?_
        refine gx_ialdN C (hG := (by first | exact hM.2.2.1 | exact hM.2.2.2.1 | exact hM.2.2.2.2.1 | exact hM.2.2.2.2.2.1 | exact hM.2.2.2.2.2.2)) (hk := by omega) (hn := by omega) dX9_put_73 ?_
        rw [pk_us]
        refine gx_zret (mc := 0) C rfl ?_ dX9_put_74
        have e : oPut z t = (nI (t.1.1.length + 1), ((t.1.1 ++ [z], t.1.2), pRec t.2.1 t.1, t.2.2)) := by rw [oPut, if_neg e1, if_neg (fun q => q c_19), if_neg (by omega)]
        exact ⟨_, rfl, by rw [e], by rw [e]; exact ⟨_, _, ty, md, rd, w, hM, sR_put hR (by omega) (pOut_0 e1).1 (pOut_0 e1).2, hH, hT⟩⟩
      · have q1 : t.1.1.length = 100 := (nI_eq (by omega) (by omega)).mp c_33
        refine gx_bipush (v := (-3)) C dX9_put_36 (by decide) ?_
        refine gx_zret (mc := 0) C rfl ?_ dX9_put_38
        have e : oPut z t = (-3, t) := by rw [oPut, if_neg e1, if_neg (fun q => q c_19), if_pos (by omega)]
        exact ⟨_, rfl, by rw [e], by rw [e]; exact ⟨st, pa, ty, md, rd, w, hM, hR, hH, hT⟩⟩
    · refine gx_bipush (v := (-2)) C dX9_put_22 (by decide) ?_
      refine gx_zret (mc := 0) C rfl ?_ dX9_put_24
      have e : oPut z t = (-2, t) := by rw [oPut, if_neg e1, if_pos c_19]
      exact ⟨_, rfl, by rw [e], by rw [e]; exact ⟨st, pa, ty, md, rd, w, hM, hR, hH, hT⟩⟩
  · have e1 := gz_o pOut_b c_8
    refine gx_iconst (v := (-1)) C dX9_put_11 (by decide) ?_
    refine gx_zret (mc := 0) C rfl ?_ dX9_put_12
    have e : oPut z t = (-1, t) := if_pos e1
    exact ⟨_, rfl, by rw [e], by rw [e]; exact ⟨st, pa, ty, md, rd, w, hM, hR, hH, hT⟩⟩
set_option maxHeartbeats 600000 in
set_option maxRecDepth 100000 in
/-- X9_begin -/
theorem k9_begin (l : Launch) (D : gD) (A : Nat → Prop) (hs : Nat) {G : gH} {G0 : gH} {a : Nat} {t : TS} (h : gMw D G0 G a t) : gM l yX9_begin wsX9_begin (gR 1) D A hs 0 0 [.ref a] G (gPi fun x G' => x = (oBegin t).1 ∧ gMw D G0 G' a (oBegin t).2) := by
  refine gM_intro (by decide) rfl rfl (Nat.le_of_ble_eq_true rfl) ?_
  intro p e s m args below meth c C
  obtain ⟨st, pa, ty, md, rd, w, hM, hR, hH, hT⟩ := h
  have h4 := hH.1
  have ht := hT.1
  have l1 := hR.1.2.1
  have l2 := hR.2.2.1.2.1
  refine gx_aload_n C dX9_begin_0 rfl ?_
  refine gx_get C fd_X9_begin_7 (hG := hM.2.1) (hv := by rfl) dX9_begin_1 ?_
  refine gx_iconst (v := nI 1) C dX9_begin_4 (by decide) ?_
  refine gx_ialdN C (hG := (by first | exact hM.2.2.1 | exact hM.2.2.2.1 | exact hM.2.2.2.2.1 | exact hM.2.2.2.2.2.1 | exact hM.2.2.2.2.2.2)) (hk := by omega) (hn := by omega) dX9_begin_5 ?_
  rw [hR.2.1]
  refine gx_if_ne (tgt := 18) C dX9_begin_6 (by decide) (fun c_6 => ?_) (fun c_6 => ?_)
  · have e : oBegin t = (-2, t) := if_pos (Or.inl c_6)
    refine gx_bipush (v := (-2)) C dX9_begin_18 (by decide) ?_
    refine gx_zret (mc := 0) C rfl ?_ dX9_begin_20
    exact ⟨_, rfl, by rw [e], by rw [e]; exact ⟨st, pa, ty, md, rd, w, hM, hR, hH, hT⟩⟩
  · refine gx_aload_n C dX9_begin_9 rfl ?_
    refine gx_get C fd_X9_begin_7 (hG := hM.2.1) (hv := by rfl) dX9_begin_10 ?_
    refine gx_iconst (v := nI 0) C dX9_begin_13 (by decide) ?_
    refine gx_ialdN C (hG := (by first | exact hM.2.2.1 | exact hM.2.2.2.1 | exact hM.2.2.2.2.1 | exact hM.2.2.2.2.2.1 | exact hM.2.2.2.2.2.2)) (hk := by omega) (hn := by omega) dX9_begin_14 ?_
    rw [hR.1.1]
    refine gx_if_ne (tgt := 21) C dX9_begin_15 (by decide) (fun c_15 => ?_) (fun c_15 => ?_)
    · have q0 : ¬ t.1.1.length = 0 := fun q => c_15 (by rw [q]; rfl)
      refine gx_aload_n C dX9_begin_21 rfl ?_
      refine gx_callV (ci := 8) (T := TX9) (N := 11) C (k9_records l D A hs hM hH hR) cb_X9_begin__X9_records gX9_begin_X9_records rfl (hG := hM.2.1) rfl rfl (Nat.le_of_ble_eq_true rfl) ⟨Nat.le_refl _, Nat.le_refl _⟩ dX9_begin_22 (gx_kv fun G_22 h_22 => ?_)
      have hH0 := hH
      obtain ⟨pa2, hM, hH⟩ := h_22
      refine gx_aload_n C dX9_begin_25 rfl ?_
      refine gx_get C fd_X9_begin_7 (hG := hM.2.1) (hv := by rfl) dX9_begin_26 ?_
      refine gx_iconst (v := nI 1) C dX9_begin_29 (by decide) ?_
      refine gx_iconst (v := 1) C dX9_begin_30 (by decide) ?_
      refine gx_iastN C (hG := (by first | exact hM.2.2.1 | exact hM.2.2.2.1 | exact hM.2.2.2.2.1 | exact hM.2.2.2.2.2.1 | exact hM.2.2.2.2.2.2)) (hk := by omega) (hn := by omega) dX9_begin_31 ?_
      refine gx_stM hM (fun hM => ?_)
      refine gx_aload_n C dX9_begin_32 rfl ?_
      refine gx_get C fd_X9_begin_7 (hG := hM.2.1) (hv := by rfl) dX9_begin_33 ?_
      refine gx_iconst (v := nI 0) C dX9_begin_36 (by decide) ?_
      refine gx_ialdN C (hG := (by first | exact hM.2.2.1 | exact hM.2.2.2.1 | exact hM.2.2.2.2.1 | exact hM.2.2.2.2.2.1 | exact hM.2.2.2.2.2.2)) (hk := by omega) (hn := by omega) dX9_begin_37 ?_
      rw [pk_un (by omega), hR.1.1]
      refine gx_zret (mc := 0) C rfl ?_ dX9_begin_38
      have e : oBegin t = (nI t.1.1.length, ((t.1.1, 1, t.1.2.2), pRec t.2.1 t.1, t.2.2)) := if_neg (fun q => q.elim (fun y => y c_6) q0)
      exact ⟨_, rfl, by rw [e], by rw [e]; exact ⟨_, _, ty, md, rd, w, hM, sR_beg hR, hH, hT⟩⟩
    · have q0 : t.1.1.length = 0 := (nI_eq (b := 0) (by omega) (by omega)).mp c_15
      have e : oBegin t = (-2, t) := if_pos (Or.inr q0)
      refine gx_bipush (v := (-2)) C dX9_begin_18 (by decide) ?_
      refine gx_zret (mc := 0) C rfl ?_ dX9_begin_20
      exact ⟨_, rfl, by rw [e], by rw [e]; exact ⟨st, pa, ty, md, rd, w, hM, hR, hH, hT⟩⟩
set_option maxHeartbeats 600000 in
set_option maxRecDepth 100000 in
/-- X9_becomes -/
theorem k9_becomes (l : Launch) (D : gD) (A : Nat → Prop) (hs : Nat) {G : gH} {G0 : gH} {a : Nat} {t : TS} (h : gMw D G0 G a t) {j k : Nat} (hj : j < t.1.2.2.1.length) (hk : k < 4) (h3 : (oShj t j).2.1 = 3 → nI k = 3) : gM l yX9_becomes wsX9_becomes (gR 1) D A hs 0 0 [.ref a, .int (nI j), .int (nI k)] G (gPi fun x G' => x = nI (oShj t j).2.2.length ∧ gMw D G0 G' a (oStat t j (nI k))) := by
  refine gM_intro (by decide) rfl rfl (Nat.le_of_ble_eq_true rfl) ?_
  intro p e s m args below meth c C
  obtain ⟨st, pa, ty, md, rd, w, hM, hR, hH, hT⟩ := h
  have h4 := hH.1
  have ht := hT.1
  have l1 := hR.1.2.1
  have l2 := hR.2.2.1.2.1
  have sj := hR.2.2.1.2.2 j hj
  refine gx_aload_n C dX9_becomes_0 rfl ?_
  refine gx_callV (ci := 8) (T := TX9) (N := 11) C (k9_records l D A hs hM hH hR) cb_X9_becomes__X9_records gX9_becomes_X9_records rfl (hG := hM.2.1) rfl rfl (Nat.le_of_ble_eq_true rfl) ⟨Nat.le_refl _, Nat.le_refl _⟩ dX9_becomes_1 (gx_kv fun G_1 h_1 => ?_)
  have hH0 := hH
  obtain ⟨pa2, hM, hH⟩ := h_1
  refine gx_aload_n C dX9_becomes_4 rfl ?_
  refine gx_get C fd_X9_becomes_7 (hG := hM.2.1) (hv := by rfl) dX9_becomes_5 ?_
  refine gx_iload_n C dX9_becomes_8 rfl ?_
  refine gx_callS C (k9_sheetAt l D A hs j) cb_X9_becomes__X9_sheetAt gX9_becomes_X9_sheetAt rfl rfl (Nat.le_of_ble_eq_true rfl) ⟨Nat.le_refl _, Nat.le_refl _⟩ dX9_becomes_9 (gx_ki fun r_9 G_9 h_9 => ?_)
  obtain ⟨rfl, rfl⟩ := h_9
  refine gx_iconst (v := nI 1) C dX9_becomes_12 (by decide) ?_
  refine gx_iadd C dX9_becomes_13 ?_
  first | refine gx_top (nI_add _ _) ?_ | skip
  refine gx_iload_n C dX9_becomes_14 rfl ?_
  refine gx_iastN C (hG := (by first | exact hM.2.2.1 | exact hM.2.2.2.1 | exact hM.2.2.2.2.1 | exact hM.2.2.2.2.2.1 | exact hM.2.2.2.2.2.2)) (hk := by omega) (hn := by omega) dX9_becomes_15 ?_
  refine gx_stM hM (fun hM => ?_)
  refine gx_aload_n C dX9_becomes_16 rfl ?_
  refine gx_iload_n C dX9_becomes_17 rfl ?_
  refine gx_iconst (v := nI 2) C dX9_becomes_18 (by decide) ?_
  refine gx_callV (ci := 8) (T := TX9) (N := 11) C (k9_of l D A hs hM.2.1 hM.2.2.1 j 2 (by omega)) cb_X9_becomes__X9_of gX9_becomes_X9_of rfl (hG := hM.2.1) rfl rfl (Nat.le_of_ble_eq_true rfl) ⟨Nat.le_refl _, Nat.le_refl _⟩ dX9_becomes_19 (gx_ki fun r_19 G_19 h_19 => ?_)
  obtain ⟨rfl, rfl⟩ := h_19
  rw [pk_un (by omega), show st (127 + 35 * j + 2) = _ from sj.2.2.1]
  refine gx_zret (mc := 0) C rfl ?_ dX9_becomes_22
  exact ⟨_, rfl, rfl, _, _, ty, md, rd, w, hM, sR_stat hR hj hk h3 pk_us (fun q _ hb => pk_un hb), hH, hT⟩
set_option maxHeartbeats 600000 in
set_option maxRecDepth 100000 in
/-- X9_bring -/
theorem k9_bring (l : Launch) (D : gD) (A : Nat → Prop) (hs : Nat) {G : gH} {G0 : gH} {a : Nat} {t : TS} (h : gMw D G0 G a t) (i : Int32) : gM l yX9_bring wsX9_bring (gR 2) D A hs 0 0 [.ref a, .int i] G (gPi fun x G' => x = (oBring i t).1 ∧ gMw D G0 G' a (oBring i t).2) := by
  refine gM_intro (by decide) rfl rfl (Nat.le_of_ble_eq_true rfl) ?_
  intro p e s m args below meth c C
  obtain ⟨st, pa, ty, md, rd, w, hM, hR, hH, hT⟩ := h
  have h4 := hH.1
  have ht := hT.1
  have l1 := hR.1.2.1
  have l2 := hR.2.2.1.2.1
  refine gx_aload_n C dX9_bring_0 rfl ?_
  refine gx_iload_n C dX9_bring_1 rfl ?_
  refine gx_callV (ci := 8) (T := TX9) (N := 11) C (k9_isSheet l D A hs hM.2.1 hM.2.2.1 hR i) cb_X9_bring__X9_isSheet gX9_bring_X9_isSheet rfl (hG := hM.2.1) rfl rfl (Nat.le_of_ble_eq_true rfl) ⟨Nat.le_refl _, Nat.le_refl _⟩ dX9_bring_2 (gx_ki fun r_2 G_2 h_2 => ?_)
  obtain ⟨rfl, rfl⟩ := h_2
  refine gx_if_ne (tgt := 10) C dX9_bring_5 (by decide) (fun c_5 => ?_) (fun c_5 => ?_)
  · have hi := gz_if1 c_5
    obtain ⟨j, hj, rfl⟩ := gIn_ex hi (by omega)
    have sj := hR.2.2.1.2.2 j hj
    have o1 : oIx (nI j) t.1.2.2.1.length = some j := oIx_in hj (by omega)
    obtain ⟨q4, hq4, hq⟩ := sj.2.2.2.2.2.1
    refine gx_aload_n C dX9_bring_10 rfl ?_
    refine gx_iload_n C dX9_bring_11 rfl ?_
    refine gx_iconst (v := nI 1) C dX9_bring_12 (by decide) ?_
    refine gx_callV (ci := 8) (T := TX9) (N := 11) C (k9_of l D A hs hM.2.1 hM.2.2.1 j 1 (by omega)) cb_X9_bring__X9_of gX9_bring_X9_of rfl (hG := hM.2.1) rfl rfl (Nat.le_of_ble_eq_true rfl) ⟨Nat.le_refl _, Nat.le_refl _⟩ dX9_bring_13 (gx_ki fun r_13 G_13 h_13 => ?_)
    obtain ⟨rfl, rfl⟩ := h_13
    rw [sj.2.1]
    refine gx_if_ne (tgt := 28) C dX9_bring_16 (by decide) (fun c_16 => ?_) (fun c_16 => ?_)
    · have e : oBring (nI j) t = (-2, t) := by
        unfold oBring
        rw [o1]
        exact if_neg c_16
      refine gx_bipush (v := (-2)) C dX9_bring_28 (by decide) ?_
      refine gx_zret (mc := 0) C rfl ?_ dX9_bring_30
      first
      | exact ⟨_, rfl, by rw [e], by rw [e]; exact ⟨st, pa, ty, md, rd, w, hM, hR, hH, hT⟩⟩
      | exact ⟨_, rfl, by rw [e], by rw [e]; exact hW⟩
    · have e1 : (oShj t j).2.1 = 0 := c_16
      have e : oBring (nI j) t = (nI (oShj t j).2.2.length, oStat t j (nI 1)) := by
        unfold oBring
        rw [o1]
        exact if_pos e1
      refine gx_aload_n C dX9_bring_19 rfl ?_
      refine gx_iload_n C dX9_bring_20 rfl ?_
      refine gx_iconst (v := nI 1) C dX9_bring_21 (by decide) ?_
      refine gx_callV (ci := 8) (T := TX9) (N := 11) C (k9_becomes l D A hs ⟨st, pa, ty, md, rd, w, hM, hR, hH, hT⟩ (k := 1) hj (by decide) (fun q => absurd (q.symm.trans e1) (by decide))) cb_X9_bring__X9_becomes gX9_bring_X9_becomes rfl (hG := hM.2.1) rfl rfl (Nat.le_of_ble_eq_true rfl) ⟨Nat.le_refl _, Nat.le_refl _⟩ dX9_bring_22 (gx_ki fun r_22 G_22 h_22 => ?_)
      obtain ⟨rfl, hW⟩ := h_22
      refine gx_goto (tgt := 30) C dX9_bring_25 (by decide) ?_
      refine gx_zret (mc := 0) C rfl ?_ dX9_bring_30
      first
      | exact ⟨_, rfl, by rw [e], by rw [e]; exact ⟨st, pa, ty, md, rd, w, hM, hR, hH, hT⟩⟩
      | exact ⟨_, rfl, by rw [e], by rw [e]; exact hW⟩
  · have hi := gz_if0 c_5
    have e : oBring i t = (-1, t) := by
      unfold oBring
      rw [oIx_no hi]
    refine gx_iconst (v := (-1)) C dX9_bring_8 (by decide) ?_
    refine gx_zret (mc := 0) C rfl ?_ dX9_bring_9
    exact ⟨_, rfl, by rw [e], by rw [e]; exact ⟨st, pa, ty, md, rd, w, hM, hR, hH, hT⟩⟩
set_option maxHeartbeats 600000 in
set_option maxRecDepth 100000 in
/-- X9_find -/
theorem k9_find (l : Launch) (D : gD) (A : Nat → Prop) (hs : Nat) {G : gH} {G0 : gH} {a : Nat} {t : TS} (h : gMw D G0 G a t) (i : Int32) : gM l yX9_find wsX9_find (gR 2) D A hs 0 0 [.ref a, .int i] G (gPi fun x G' => x = (oFind i t).1 ∧ gMw D G0 G' a (oFind i t).2) := by
  refine gM_intro (by decide) rfl rfl (Nat.le_of_ble_eq_true rfl) ?_
  intro p e s m args below meth c C
  obtain ⟨st, pa, ty, md, rd, w, hM, hR, hH, hT⟩ := h
  have h4 := hH.1
  have ht := hT.1
  have l1 := hR.1.2.1
  have l2 := hR.2.2.1.2.1
  refine gx_aload_n C dX9_find_0 rfl ?_
  refine gx_iload_n C dX9_find_1 rfl ?_
  refine gx_callV (ci := 8) (T := TX9) (N := 11) C (k9_isSheet l D A hs hM.2.1 hM.2.2.1 hR i) cb_X9_find__X9_isSheet gX9_find_X9_isSheet rfl (hG := hM.2.1) rfl rfl (Nat.le_of_ble_eq_true rfl) ⟨Nat.le_refl _, Nat.le_refl _⟩ dX9_find_2 (gx_ki fun r_2 G_2 h_2 => ?_)
  obtain ⟨rfl, rfl⟩ := h_2
  refine gx_if_ne (tgt := 10) C dX9_find_5 (by decide) (fun c_5 => ?_) (fun c_5 => ?_)
  · have hi := gz_if1 c_5
    obtain ⟨j, hj, rfl⟩ := gIn_ex hi (by omega)
    have sj := hR.2.2.1.2.2 j hj
    have o1 : oIx (nI j) t.1.2.2.1.length = some j := oIx_in hj (by omega)
    obtain ⟨q4, hq4, hq⟩ := sj.2.2.2.2.2.1
    refine gx_aload_n C dX9_find_10 rfl ?_
    refine gx_iload_n C dX9_find_11 rfl ?_
    refine gx_iconst (v := nI 1) C dX9_find_12 (by decide) ?_
    refine gx_callV (ci := 8) (T := TX9) (N := 11) C (k9_of l D A hs hM.2.1 hM.2.2.1 j 1 (by omega)) cb_X9_find__X9_of gX9_find_X9_of rfl (hG := hM.2.1) rfl rfl (Nat.le_of_ble_eq_true rfl) ⟨Nat.le_refl _, Nat.le_refl _⟩ dX9_find_13 (gx_ki fun r_13 G_13 h_13 => ?_)
    obtain ⟨rfl, rfl⟩ := h_13
    rw [sj.2.1]
    refine gx_iconst (v := 2) C dX9_find_16 (by decide) ?_
    refine gx_icmp_ne (tgt := 29) C dX9_find_17 (by decide) (fun c_17 => ?_) (fun c_17 => ?_)
    · have e : oFind (nI j) t = (-2, t) := by
        unfold oFind
        rw [o1]
        exact if_neg c_17
      refine gx_bipush (v := (-2)) C dX9_find_29 (by decide) ?_
      refine gx_zret (mc := 0) C rfl ?_ dX9_find_31
      first
      | exact ⟨_, rfl, by rw [e], by rw [e]; exact ⟨st, pa, ty, md, rd, w, hM, hR, hH, hT⟩⟩
      | exact ⟨_, rfl, by rw [e], by rw [e]; exact hW⟩
    · have e1 : (oShj t j).2.1 = 2 := c_17
      have e : oFind (nI j) t = (nI (oShj t j).2.2.length, oStat t j (nI 1)) := by
        unfold oFind
        rw [o1]
        exact if_pos e1
      refine gx_aload_n C dX9_find_20 rfl ?_
      refine gx_iload_n C dX9_find_21 rfl ?_
      refine gx_iconst (v := nI 1) C dX9_find_22 (by decide) ?_
      refine gx_callV (ci := 8) (T := TX9) (N := 11) C (k9_becomes l D A hs ⟨st, pa, ty, md, rd, w, hM, hR, hH, hT⟩ (k := 1) hj (by decide) (fun q => absurd (q.symm.trans e1) (by decide))) cb_X9_find__X9_becomes gX9_find_X9_becomes rfl (hG := hM.2.1) rfl rfl (Nat.le_of_ble_eq_true rfl) ⟨Nat.le_refl _, Nat.le_refl _⟩ dX9_find_23 (gx_ki fun r_23 G_23 h_23 => ?_)
      obtain ⟨rfl, hW⟩ := h_23
      refine gx_goto (tgt := 31) C dX9_find_26 (by decide) ?_
      refine gx_zret (mc := 0) C rfl ?_ dX9_find_31
      first
      | exact ⟨_, rfl, by rw [e], by rw [e]; exact ⟨st, pa, ty, md, rd, w, hM, hR, hH, hT⟩⟩
      | exact ⟨_, rfl, by rw [e], by rw [e]; exact hW⟩
  · have hi := gz_if0 c_5
    have e : oFind i t = (-1, t) := by
      unfold oFind
      rw [oIx_no hi]
    refine gx_iconst (v := (-1)) C dX9_find_8 (by decide) ?_
    refine gx_zret (mc := 0) C rfl ?_ dX9_find_9
    exact ⟨_, rfl, by rw [e], by rw [e]; exact ⟨st, pa, ty, md, rd, w, hM, hR, hH, hT⟩⟩
set_option maxHeartbeats 600000 in
set_option maxRecDepth 100000 in
/-- X9_lose -/
theorem k9_lose (l : Launch) (D : gD) (A : Nat → Prop) (hs : Nat) {G : gH} {G0 : gH} {a : Nat} {t : TS} (h : gMw D G0 G a t) (i : Int32) : gM l yX9_lose wsX9_lose (gR 2) D A hs 0 0 [.ref a, .int i] G (gPi fun x G' => x = (oLose i t).1 ∧ gMw D G0 G' a (oLose i t).2) := by
  refine gM_intro (by decide) rfl rfl (Nat.le_of_ble_eq_true rfl) ?_
  intro p e s m args below meth c C
  obtain ⟨st, pa, ty, md, rd, w, hM, hR, hH, hT⟩ := h
  have h4 := hH.1
  have ht := hT.1
  have l1 := hR.1.2.1
  have l2 := hR.2.2.1.2.1
  refine gx_aload_n C dX9_lose_0 rfl ?_
  refine gx_iload_n C dX9_lose_1 rfl ?_
  refine gx_callV (ci := 8) (T := TX9) (N := 11) C (k9_isSheet l D A hs hM.2.1 hM.2.2.1 hR i) cb_X9_lose__X9_isSheet gX9_lose_X9_isSheet rfl (hG := hM.2.1) rfl rfl (Nat.le_of_ble_eq_true rfl) ⟨Nat.le_refl _, Nat.le_refl _⟩ dX9_lose_2 (gx_ki fun r_2 G_2 h_2 => ?_)
  obtain ⟨rfl, rfl⟩ := h_2
  refine gx_if_ne (tgt := 10) C dX9_lose_5 (by decide) (fun c_5 => ?_) (fun c_5 => ?_)
  · have hi := gz_if1 c_5
    obtain ⟨j, hj, rfl⟩ := gIn_ex hi (by omega)
    have sj := hR.2.2.1.2.2 j hj
    have o1 : oIx (nI j) t.1.2.2.1.length = some j := oIx_in hj (by omega)
    obtain ⟨q4, hq4, hq⟩ := sj.2.2.2.2.2.1
    refine gx_aload_n C dX9_lose_10 rfl ?_
    refine gx_iload_n C dX9_lose_11 rfl ?_
    refine gx_iconst (v := nI 1) C dX9_lose_12 (by decide) ?_
    refine gx_callV (ci := 8) (T := TX9) (N := 11) C (k9_of l D A hs hM.2.1 hM.2.2.1 j 1 (by omega)) cb_X9_lose__X9_of gX9_lose_X9_of rfl (hG := hM.2.1) rfl rfl (Nat.le_of_ble_eq_true rfl) ⟨Nat.le_refl _, Nat.le_refl _⟩ dX9_lose_13 (gx_ki fun r_13 G_13 h_13 => ?_)
    obtain ⟨rfl, rfl⟩ := h_13
    rw [sj.2.1]
    refine gx_iconst (v := 2) C dX9_lose_16 (by decide) ?_
    refine gx_icmp_ge (tgt := 29) C dX9_lose_17 (by decide) (fun c_17 => ?_) (fun c_17 => ?_)
    · have e : oLose (nI j) t = (-2, t) := by
        unfold oLose
        rw [o1]
        refine if_neg (fun q => ?_)
        have c : 2 ≤ (oShj t j).2.1 := c_17
        rcases q with q | q <;> (rw [q] at c; exact absurd c (by decide))
      refine gx_bipush (v := (-2)) C dX9_lose_29 (by decide) ?_
      refine gx_zret (mc := 0) C rfl ?_ dX9_lose_31
      first
      | exact ⟨_, rfl, by rw [e], by rw [e]; exact ⟨st, pa, ty, md, rd, w, hM, hR, hH, hT⟩⟩
      | exact ⟨_, rfl, by rw [e], by rw [e]; exact hW⟩
    · have e1 : (oShj t j).2.1 = 0 ∨ (oShj t j).2.1 = 1 := by
        have q : (oShj t j).2.1 = nI q4 := hq
        have c : ¬ 2 ≤ (oShj t j).2.1 := c_17
        rw [q] at c ⊢
        rcases (show q4 = 0 ∨ q4 = 1 ∨ q4 = 2 ∨ q4 = 3 by omega) with rfl | rfl | rfl | rfl
        · exact Or.inl rfl
        · exact Or.inr rfl
        · exact absurd (by decide) c
        · exact absurd (by decide) c
      have e : oLose (nI j) t = (nI (oShj t j).2.2.length, oStat t j (nI 2)) := by
        unfold oLose
        rw [o1]
        exact if_pos e1
      refine gx_aload_n C dX9_lose_20 rfl ?_
      refine gx_iload_n C dX9_lose_21 rfl ?_
      refine gx_iconst (v := nI 2) C dX9_lose_22 (by decide) ?_
      refine gx_callV (ci := 8) (T := TX9) (N := 11) C (k9_becomes l D A hs ⟨st, pa, ty, md, rd, w, hM, hR, hH, hT⟩ (k := 2) hj (by decide) (fun q => absurd (show (2 : Int32) ≤ (t.1.2.2.1.getD j shD).2.1 from by rw [show (t.1.2.2.1.getD j shD).2.1 = 3 from q]; decide) c_17)) cb_X9_lose__X9_becomes gX9_lose_X9_becomes rfl (hG := hM.2.1) rfl rfl (Nat.le_of_ble_eq_true rfl) ⟨Nat.le_refl _, Nat.le_refl _⟩ dX9_lose_23 (gx_ki fun r_23 G_23 h_23 => ?_)
      obtain ⟨rfl, hW⟩ := h_23
      refine gx_goto (tgt := 31) C dX9_lose_26 (by decide) ?_
      refine gx_zret (mc := 0) C rfl ?_ dX9_lose_31
      first
      | exact ⟨_, rfl, by rw [e], by rw [e]; exact ⟨st, pa, ty, md, rd, w, hM, hR, hH, hT⟩⟩
      | exact ⟨_, rfl, by rw [e], by rw [e]; exact hW⟩
  · have hi := gz_if0 c_5
    have e : oLose i t = (-1, t) := by
      unfold oLose
      rw [oIx_no hi]
    refine gx_iconst (v := (-1)) C dX9_lose_8 (by decide) ?_
    refine gx_zret (mc := 0) C rfl ?_ dX9_lose_9
    exact ⟨_, rfl, by rw [e], by rw [e]; exact ⟨st, pa, ty, md, rd, w, hM, hR, hH, hT⟩⟩
set_option maxHeartbeats 600000 in
set_option maxRecDepth 100000 in
/-- X9_send -/
theorem k9_send (l : Launch) (D : gD) (A : Nat → Prop) (hs : Nat) {G : gH} {G0 : gH} {a : Nat} {t : TS} (h : gMw D G0 G a t) (z : Int32) : gM l yX9_send wsX9_send (gR 2) D A hs 0 0 [.ref a, .int z] G (gPi fun x G' => x = (oSend z t).1 ∧ gMw D G0 G' a (oSend z t).2) := by
  refine gM_intro (by decide) rfl rfl (Nat.le_of_ble_eq_true rfl) ?_
  intro p e s m args below meth c C
  obtain ⟨st, pa, ty, md, rd, w, hM, hR, hH, hT⟩ := h
  have h4 := hH.1
  have ht := hT.1
  have l1 := hR.1.2.1
  have l2 := hR.2.2.1.2.1
  have hone : ∀ (r : Nat) (pa2 : Nat → Int32) (G1 : gH), r < 6 → ¬ pOut (nI r) 0 5 = 1 → ¬ (t.1.2.1 = 0 ∨ pBusy t.1.2.2.1 (nI r) = true) → t.1.2.2.1.length < 8 → hiR pa2 (pRec t.2.1 t.1) → gMa D G0 G1 a (nI (pRec t.2.1 t.1).length, nI t.2.2.length, w) st pa2 ty md rd → gX p l e (gR 2) s m args below meth c D A 4 hs 0 0 (MQ below (gQ D A hs 0 (gPi fun x G' => x = (oSend (nI r) t).1 ∧ gMw D G0 G' a (oSend (nI r) t).2)) args s 0 0 A) G1 [some (.ref a), some (.int (nI r)), some (.int (nI t.1.2.2.1.length)), some (.int (nI 0))] 56 [] := by
    intro r pa2 G1 hr e1 e2 h8 hH hM1
    have hloop : ∀ (n j : Nat) (G1 : gH), 35 < j + n → j ≤ 35 → gMa D G0 G1 a (nI (pRec t.2.1 t.1).length, nI t.2.2.length, w) (cpy st (fun _ => 0) (127 + 35 * t.1.2.2.1.length) j) pa2 ty md rd → gX p l e (gR 2) s m args below meth c D A 4 hs 0 0 (MQ below (gQ D A hs 0 (gPi fun x G' => x = (oSend (nI r) t).1 ∧ gMw D G0 G' a (oSend (nI r) t).2)) args s 0 0 A) G1 [some (.ref a), some (.int (nI r)), some (.int (nI t.1.2.2.1.length)), some (.int (nI j))] 56 [] := by
      intro n
      induction n with
      | zero => intro j G1 hm hj0 hI; exact absurd hm (by omega)
      | succ n ih =>
        intro j G1 hm hj0 hI
        have hM := hI
        refine gx_iload_n C dX9_send_56 rfl ?_
        refine gx_bipush (v := nI 35) C dX9_send_57 (by decide) ?_
        refine gx_icmp_ge (tgt := 80) C dX9_send_59 (by decide) (fun c_59 => ?_) (fun c_59 => ?_)
        · have hj : ¬ j < 35 := fun q => nI_ge q (by omega) c_59
          refine gx_aload_n C dX9_send_80 rfl ?_
          have j8 : j = 35 := by omega
          subst j8
          refine gx_get C fd_X9_send_7 (hG := hM.2.1) (hv := by rfl) dX9_send_81 ?_
          refine gx_iload_n C dX9_send_84 rfl ?_
          refine gx_callS C (k9_sheetAt l D A hs t.1.2.2.1.length) cb_X9_send__X9_sheetAt gX9_send_X9_sheetAt rfl rfl (Nat.le_of_ble_eq_true rfl) ⟨Nat.le_refl _, Nat.le_refl _⟩ dX9_send_85 (gx_ki fun r_85 G_85 h_85 => ?_)
          obtain ⟨rfl, rfl⟩ := h_85
          refine gx_iconst (v := nI 0) C dX9_send_88 (by decide) ?_
          refine gx_iadd C dX9_send_89 ?_
          first | refine gx_top (nI_add _ _) ?_ | skip
          refine gx_iload_n C dX9_send_90 rfl ?_
          refine gx_iastN C (hG := (by first | exact hM.2.2.1 | exact hM.2.2.2.1 | exact hM.2.2.2.2.1 | exact hM.2.2.2.2.2.1 | exact hM.2.2.2.2.2.2)) (hk := by omega) (hn := by omega) dX9_send_91 ?_
          refine gx_stM hM (fun hM => ?_)
          refine gx_aload_n C dX9_send_92 rfl ?_
          refine gx_get C fd_X9_send_7 (hG := hM.2.1) (hv := by rfl) dX9_send_93 ?_
          refine gx_bipush (v := nI 9) C dX9_send_96 (by decide) ?_
          refine gx_iconst (v := nI 3) C dX9_send_98 (by decide) ?_
          refine gx_iload_n C dX9_send_99 rfl ?_
          refine gx_imul C dX9_send_100 ?_
          first | refine gx_top (pk_mul _ _) ?_ | skip
          refine gx_iadd C dX9_send_101 ?_
          first | refine gx_top (nI_add _ _) ?_ | skip
          refine gx_dup2 C dX9_send_102 rfl rfl ?_
          refine gx_ialdN C (hG := (by first | exact hM.2.2.1 | exact hM.2.2.2.1 | exact hM.2.2.2.2.1 | exact hM.2.2.2.2.2.1 | exact hM.2.2.2.2.2.2)) (hk := by omega) (hn := by omega) dX9_send_103 ?_
          rw [pk_un (by omega), cpy_out (by omega), (hR.2.2.2.2.1.2.2.2.2.2 r hr).1]
          refine gx_iconst (v := nI 1) C dX9_send_104 (by decide) ?_
          refine gx_iadd C dX9_send_105 ?_
          first | refine gx_top (nI_add _ _) ?_ | skip
          refine gx_iastN C (hG := (by first | exact hM.2.2.1 | exact hM.2.2.2.1 | exact hM.2.2.2.2.1 | exact hM.2.2.2.2.2.1 | exact hM.2.2.2.2.2.2)) (hk := by omega) (hn := by omega) dX9_send_106 ?_
          refine gx_stM hM (fun hM => ?_)
          refine gx_aload_n C dX9_send_107 rfl ?_
          refine gx_get C fd_X9_send_7 (hG := hM.2.1) (hv := by rfl) dX9_send_108 ?_
          refine gx_iconst (v := nI 2) C dX9_send_111 (by decide) ?_
          refine gx_dup2 C dX9_send_112 rfl rfl ?_
          refine gx_ialdN C (hG := (by first | exact hM.2.2.1 | exact hM.2.2.2.1 | exact hM.2.2.2.2.1 | exact hM.2.2.2.2.2.1 | exact hM.2.2.2.2.2.2)) (hk := by omega) (hn := by omega) dX9_send_113 ?_
          rw [pk_un (by omega), pk_un (by omega), cpy_out (by omega), hR.2.2.1.1]
          refine gx_iconst (v := nI 1) C dX9_send_114 (by decide) ?_
          refine gx_iadd C dX9_send_115 ?_
          first | refine gx_top (nI_add _ _) ?_ | skip
          refine gx_iastN C (hG := (by first | exact hM.2.2.1 | exact hM.2.2.2.1 | exact hM.2.2.2.2.1 | exact hM.2.2.2.2.2.1 | exact hM.2.2.2.2.2.2)) (hk := by omega) (hn := by omega) dX9_send_116 ?_
          refine gx_stM hM (fun hM => ?_)
          refine gx_iload_n C dX9_send_117 rfl ?_
          refine gx_zret (mc := 0) C rfl ?_ dX9_send_118
          have e : oSend (nI r) t = (nI t.1.2.2.1.length, ((t.1.1, t.1.2.1, t.1.2.2.1 ++ [(nI r, 0, [])], t.1.2.2.2.1, (t.1.2.2.2.2.1, lset t.1.2.2.2.2.2.1 (nI r) (lget t.1.2.2.2.2.2.1 (nI r) + 1), t.1.2.2.2.2.2.2)), pRec t.2.1 t.1, t.2.2)) := by rw [oSend, if_neg e1, if_neg e2, if_neg (by omega)]
          refine ⟨_, rfl, by rw [e], ?_⟩
          rw [e]
          refine ⟨_, _, ty, md, rd, w, hM, sR_send (n := t.1.2.2.1.length) hR rfl (by omega) hr pk_us ?_ ?_ ?_ ?_, hH, hT⟩
          · rw [pk_un (by omega), pk_us]
            rfl
          · rw [pk_un (by omega), pk_un (by omega)]
            exact pk_us
          · intro i h0 hi
            rw [pk_un (by omega), pk_un (by omega), pk_un (by omega), cpy_in (by omega)]
          · intro q hq h1 h2 h3
            rw [pk_un h1, pk_un h2, pk_un (by omega), cpy_out (by omega)]
        · have hj : j < 35 := by
            rcases Nat.lt_or_ge (j) (35) with q | q
            · exact q
            · exact absurd (nI_le q (by omega)) c_59
          refine gx_aload_n C dX9_send_62 rfl ?_
          refine gx_get C fd_X9_send_7 (hG := hM.2.1) (hv := by rfl) dX9_send_63 ?_
          refine gx_iload_n C dX9_send_66 rfl ?_
          refine gx_callS C (k9_sheetAt l D A hs t.1.2.2.1.length) cb_X9_send__X9_sheetAt gX9_send_X9_sheetAt rfl rfl (Nat.le_of_ble_eq_true rfl) ⟨Nat.le_refl _, Nat.le_refl _⟩ dX9_send_67 (gx_ki fun r_67 G_67 h_67 => ?_)
          obtain ⟨rfl, rfl⟩ := h_67
          refine gx_iload_n C dX9_send_70 rfl ?_
          refine gx_iadd C dX9_send_71 ?_
          first | refine gx_top (nI_add _ _) ?_ | skip
          refine gx_iconst (v := 0) C dX9_send_72 (by decide) ?_
          refine gx_iastN C (hG := (by first | exact hM.2.2.1 | exact hM.2.2.2.1 | exact hM.2.2.2.2.1 | exact hM.2.2.2.2.2.1 | exact hM.2.2.2.2.2.2)) (hk := by omega) (hn := by omega) dX9_send_73 ?_
          first | refine gx_iincN C dX9_send_74 rfl (by decide) ?_ | refine gx_iinc1 C dX9_send_74 rfl (by decide) ?_
          refine gx_goto (tgt := 56) C dX9_send_77 (by decide) ?_
          exact ih (j + 1) _ (by omega) (by omega) (by rw [← cpy_s]; exact gMa_st hM)
    exact hloop 36 0 G1 (by omega) (by omega) (by rw [cpy_0]; exact hM1)
  refine gx_iload_n C dX9_send_0 rfl ?_
  refine gx_callS C (k9_isReader l D A hs z) cb_X9_send__X9_isReader gX9_send_X9_isReader rfl rfl (Nat.le_of_ble_eq_true rfl) ⟨Nat.le_refl _, Nat.le_refl _⟩ dX9_send_1 (gx_ki fun r_1 G_1 h_1 => ?_)
  obtain ⟨rfl, rfl⟩ := h_1
  refine gx_if_ne (tgt := 9) C dX9_send_4 (by decide) (fun c_4 => ?_) (fun c_4 => ?_)
  · have e1 := gz_p c_4
    obtain ⟨r, hr, rfl⟩ := pRd e1
    refine gx_aload_n C dX9_send_9 rfl ?_
    refine gx_get C fd_X9_send_7 (hG := hM.2.1) (hv := by rfl) dX9_send_10 ?_
    refine gx_iconst (v := nI 1) C dX9_send_13 (by decide) ?_
    refine gx_ialdN C (hG := (by first | exact hM.2.2.1 | exact hM.2.2.2.1 | exact hM.2.2.2.2.1 | exact hM.2.2.2.2.2.1 | exact hM.2.2.2.2.2.2)) (hk := by omega) (hn := by omega) dX9_send_14 ?_
    rw [hR.2.1]
    refine gx_if_eq (tgt := 26) C dX9_send_15 (by decide) (fun c_15 => ?_) (fun c_15 => ?_)
    · have e2 : t.1.2.1 = 0 ∨ pBusy t.1.2.2.1 (nI r) = true := Or.inl c_15
      refine gx_bipush (v := (-2)) C dX9_send_26 (by decide) ?_
      refine gx_zret (mc := 0) C rfl ?_ dX9_send_28
      have e : oSend (nI r) t = (-2, t) := by rw [oSend, if_neg e1, if_pos e2]
      exact ⟨_, rfl, by rw [e], by rw [e]; exact ⟨st, pa, ty, md, rd, w, hM, hR, hH, hT⟩⟩
    · refine gx_aload_n C dX9_send_18 rfl ?_
      refine gx_iload_n C dX9_send_19 rfl ?_
      refine gx_callV (ci := 8) (T := TX9) (N := 11) C (k9_isBusy l D A hs hM.2.1 hM.2.2.1 hR (nI r)) cb_X9_send__X9_isBusy gX9_send_X9_isBusy rfl (hG := hM.2.1) rfl rfl (Nat.le_of_ble_eq_true rfl) ⟨Nat.le_refl _, Nat.le_refl _⟩ dX9_send_20 (gx_ki fun r_20 G_20 h_20 => ?_)
      obtain ⟨rfl, rfl⟩ := h_20
      refine gx_if_eq (tgt := 29) C dX9_send_23 (by decide) (fun c_23 => ?_) (fun c_23 => ?_)
      · have e2 : ¬ (t.1.2.1 = 0 ∨ pBusy t.1.2.2.1 (nI r) = true) := fun q => q.elim c_15 (gz_if0 c_23)
        refine gx_aload_n C dX9_send_29 rfl ?_
        refine gx_get C fd_X9_send_7 (hG := hM.2.1) (hv := by rfl) dX9_send_30 ?_
        refine gx_iconst (v := nI 2) C dX9_send_33 (by decide) ?_
        refine gx_ialdN C (hG := (by first | exact hM.2.2.1 | exact hM.2.2.2.1 | exact hM.2.2.2.2.1 | exact hM.2.2.2.2.2.1 | exact hM.2.2.2.2.2.2)) (hk := by omega) (hn := by omega) dX9_send_34 ?_
        rw [hR.2.2.1.1]
        refine gx_bipush (v := nI 8) C dX9_send_35 (by decide) ?_
        refine gx_icmp_ne (tgt := 43) C dX9_send_37 (by decide) (fun c_37 => ?_) (fun c_37 => ?_)
        · have q1 : ¬ t.1.2.2.1.length = 8 := fun q => c_37 (by rw [q])
          refine gx_aload_n C dX9_send_43 rfl ?_
          refine gx_callV (ci := 8) (T := TX9) (N := 11) C (k9_records l D A hs hM hH hR) cb_X9_send__X9_records gX9_send_X9_records rfl (hG := hM.2.1) rfl rfl (Nat.le_of_ble_eq_true rfl) ⟨Nat.le_refl _, Nat.le_refl _⟩ dX9_send_44 (gx_kv fun G_44 h_44 => ?_)
          have hH0 := hH
          obtain ⟨pa2, hM, hH⟩ := h_44
          refine gx_aload_n C dX9_send_47 rfl ?_
          refine gx_get C fd_X9_send_7 (hG := hM.2.1) (hv := by rfl) dX9_send_48 ?_
          refine gx_iconst (v := nI 2) C dX9_send_51 (by decide) ?_
          refine gx_ialdN C (hG := (by first | exact hM.2.2.1 | exact hM.2.2.2.1 | exact hM.2.2.2.2.1 | exact hM.2.2.2.2.2.1 | exact hM.2.2.2.2.2.2)) (hk := by omega) (hn := by omega) dX9_send_52 ?_
          rw [hR.2.2.1.1]
          refine gx_istore_n C dX9_send_53 (by decide) ?_
          refine gx_iconst (v := 0) C dX9_send_54 (by decide) ?_
          refine gx_istore_n C dX9_send_55 (by decide) ?_
          exact hone r pa2 _ hr e1 e2 (by omega) hH hM
        · have q1 : t.1.2.2.1.length = 8 := (nI_eq (by omega) (by omega)).mp c_37
          refine gx_bipush (v := (-3)) C dX9_send_40 (by decide) ?_
          refine gx_zret (mc := 0) C rfl ?_ dX9_send_42
          have e : oSend (nI r) t = (-3, t) := by rw [oSend, if_neg e1, if_neg e2, if_pos (by omega)]
          exact ⟨_, rfl, by rw [e], by rw [e]; exact ⟨st, pa, ty, md, rd, w, hM, hR, hH, hT⟩⟩
      · have e2 : t.1.2.1 = 0 ∨ pBusy t.1.2.2.1 (nI r) = true := Or.inr (gz_if1 c_23)
        refine gx_bipush (v := (-2)) C dX9_send_26 (by decide) ?_
        refine gx_zret (mc := 0) C rfl ?_ dX9_send_28
        have e : oSend (nI r) t = (-2, t) := by rw [oSend, if_neg e1, if_pos e2]
        exact ⟨_, rfl, by rw [e], by rw [e]; exact ⟨st, pa, ty, md, rd, w, hM, hR, hH, hT⟩⟩
  · have e1 := gz_o pOut_b c_4
    refine gx_iconst (v := (-1)) C dX9_send_7 (by decide) ?_
    refine gx_zret (mc := 0) C rfl ?_ dX9_send_8
    have e : oSend z t = (-1, t) := if_pos e1
    exact ⟨_, rfl, by rw [e], by rw [e]; exact ⟨st, pa, ty, md, rd, w, hM, hR, hH, hT⟩⟩
set_option maxHeartbeats 600000 in
set_option maxRecDepth 100000 in
/-- X9_type -/
theorem k9_type (l : Launch) (D : gD) (A : Nat → Prop) (hs : Nat) {G : gH} {G0 : gH} {a : Nat} {t : TS} (h : gMw D G0 G a t) (z : Int32) : gM l yX9_type wsX9_type (gR 1) D A hs 0 0 [.ref a, .int z] G (gPi fun x G' => x = (oType z t).1 ∧ gMw D G0 G' a (oType z t).2) := by
  refine gM_intro (by decide) rfl rfl (Nat.le_of_ble_eq_true rfl) ?_
  intro p e s m args below meth c C
  obtain ⟨st, pa, ty, md, rd, w, hM, hR, hH, hT⟩ := h
  have h4 := hH.1
  have ht := hT.1
  have l1 := hR.1.2.1
  have l2 := hR.2.2.1.2.1
  refine gx_iload_n C dX9_type_0 rfl ?_
  refine gx_bipush (v := 32) C dX9_type_1 (by decide) ?_
  refine gx_bipush (v := 126) C dX9_type_3 (by decide) ?_
  refine gx_callS C (k9_in l D A hs z 32 126) cb_X9_type__X9_in gX9_type_X9_in rfl rfl (Nat.le_of_ble_eq_true rfl) ⟨Nat.le_refl _, Nat.le_refl _⟩ dX9_type_5 (gx_ki fun r_5 G_5 h_5 => ?_)
  obtain ⟨rfl, rfl⟩ := h_5
  refine gx_if_ne (tgt := 13) C dX9_type_8 (by decide) (fun c_8 => ?_) (fun c_8 => ?_)
  · have e1 := gz_p c_8
    refine gx_aload_n C dX9_type_13 rfl ?_
    refine gx_get C fd_X9_type_101 (hG := hM.2.1) (hv := by rfl) dX9_type_14 ?_
    refine gx_bipush (v := nI 80) C dX9_type_17 (by decide) ?_
    refine gx_icmp_ne (tgt := 25) C dX9_type_19 (by decide) (fun c_19 => ?_) (fun c_19 => ?_)
    · have q1 : ¬ t.2.2.length = 80 := fun q => c_19 (by rw [q])
      refine gx_aload_n C dX9_type_25 rfl ?_
      refine gx_get C fd_X9_type_16 (hG := hM.2.1) (hv := by rfl) dX9_type_26 ?_
      refine gx_aload_n C dX9_type_29 rfl ?_
      refine gx_get C fd_X9_type_101 (hG := hM.2.1) (hv := by rfl) dX9_type_30 ?_
      refine gx_iload_n C dX9_type_33 rfl ?_
      refine gx_iastN C (hG := (by first | exact hM.2.2.1 | exact hM.2.2.2.1 | exact hM.2.2.2.2.1 | exact hM.2.2.2.2.2.1 | exact hM.2.2.2.2.2.2)) (hk := by omega) (hn := by omega) dX9_type_34 ?_
      refine gx_tyM hM (fun hM => ?_)
      refine gx_aload_n C dX9_type_35 rfl ?_
      refine gx_dup C dX9_type_36 rfl ?_
      refine gx_get C fd_X9_type_101 (hG := hM.2.1) (hv := by rfl) dX9_type_37 ?_
      refine gx_iconst (v := nI 1) C dX9_type_40 (by decide) ?_
      refine gx_iadd C dX9_type_41 ?_
      first | refine gx_top (nI_add _ _) ?_ | skip
      refine gx_put C fd_X9_type_101 tyX9_ok nmX9 rfl rfl rfl (hG := hM.2.1) (hl := by exact Nat.le_of_ble_eq_true rfl) dX9_type_42 ?_
      have hM := gMa_ob (z' := (nI t.2.1.length, nI (t.2.2.length + 1), w)) hM rfl
      refine gx_aload_n C dX9_type_45 rfl ?_
      refine gx_get C fd_X9_type_101 (hG := hM.2.1) (hv := by rfl) dX9_type_46 ?_
      refine gx_zret (mc := 0) C rfl ?_ dX9_type_49
      have e : oType z t = (nI (t.2.2.length + 1), (t.1, t.2.1, t.2.2 ++ [z])) := by rw [oType, if_neg e1, if_neg (by omega)]
      exact ⟨_, rfl, by rw [e], by rw [e]; exact ⟨st, pa, _, md, rd, w, by rw [len_1]; exact hM, hR, hH, tyR_1 hT (by omega) (pOut_0 e1).1 (pOut_0 e1).2⟩⟩
    · have q1 : t.2.2.length = 80 := (nI_eq (by omega) (by omega)).mp c_19
      refine gx_bipush (v := (-3)) C dX9_type_22 (by decide) ?_
      refine gx_zret (mc := 0) C rfl ?_ dX9_type_24
      have e : oType z t = (-3, t) := by rw [oType, if_neg e1, if_pos (by omega)]
      exact ⟨_, rfl, by rw [e], by rw [e]; exact ⟨st, pa, ty, md, rd, w, hM, hR, hH, hT⟩⟩
  · have e1 := gz_o pOut_b c_8
    refine gx_iconst (v := (-1)) C dX9_type_11 (by decide) ?_
    refine gx_zret (mc := 0) C rfl ?_ dX9_type_12
    have e : oType z t = (-1, t) := if_pos e1
    exact ⟨_, rfl, by rw [e], by rw [e]; exact ⟨st, pa, ty, md, rd, w, hM, hR, hH, hT⟩⟩
set_option maxHeartbeats 600000 in
set_option maxRecDepth 100000 in
/-- X9_clearText -/
theorem k9_clearText (l : Launch) (D : gD) (A : Nat → Prop) (hs : Nat) {G : gH} {G0 : gH} {a : Nat} {t : TS} (h : gMw D G0 G a t) : gM l yX9_clearText wsX9_clearText (gR 0) D A hs 0 0 [.ref a] G (gPi fun x G' => x = nI t.2.2.length ∧ gMw D G0 G' a (t.1, t.2.1, [])) := by
  refine gM_intro (by decide) rfl rfl (Nat.le_of_ble_eq_true rfl) ?_
  intro p e s m args below meth c C
  obtain ⟨st, pa, ty, md, rd, w, hM, hR, hH, hT⟩ := h
  have h4 := hH.1
  have ht := hT.1
  have l1 := hR.1.2.1
  have l2 := hR.2.2.1.2.1
  refine gx_aload_n C dX9_clearText_0 rfl ?_
  refine gx_get C fd_X9_clearText_101 (hG := hM.2.1) (hv := by rfl) dX9_clearText_1 ?_
  refine gx_istore_n C dX9_clearText_4 (by decide) ?_
  refine gx_aload_n C dX9_clearText_5 rfl ?_
  refine gx_iconst (v := nI 0) C dX9_clearText_6 (by decide) ?_
  refine gx_put C fd_X9_clearText_101 tyX9_ok nmX9 rfl rfl rfl (hG := hM.2.1) (hl := by exact Nat.le_of_ble_eq_true rfl) dX9_clearText_7 ?_
  have hM := gMa_ob (z' := (nI t.2.1.length, nI 0, w)) hM rfl
  refine gx_iload_n C dX9_clearText_10 rfl ?_
  refine gx_zret (mc := 0) C rfl ?_ dX9_clearText_11
  exact ⟨_, rfl, rfl, st, pa, ty, md, rd, w, hM, hR, hH, ⟨Nat.zero_le _, fun i hi => absurd hi (Nat.not_lt_zero _)⟩⟩
