/-! THE MODEL: count, mark, answer, next -/
theorem oCount_a {t : TS} {q : Nat} (h : 10 ≤ q) (h2 : q ≤ 14) : oCount (nI q) t = t.1.2.2.2.2.1.getD (q - 10) 0 := by
  have h5 : q = 10 ∨ q = 11 ∨ q = 12 ∨ q = 13 ∨ q = 14 := by omega
  have e1 : pOut (nI q) 10 16 = 0 := by rcases h5 with rfl | rfl | rfl | rfl | rfl <;> decide
  have e2 : nI q - 10 = nI (q - 10) := pk_sub (b := 10) h
  have e3 : ¬ nI (q - 10) = 5 := by rcases h5 with rfl | rfl | rfl | rfl | rfl <;> decide
  have e4 : ¬ nI (q - 10) = 6 := by rcases h5 with rfl | rfl | rfl | rfl | rfl <;> decide
  rw [oCount, if_pos e1, e2, oAcc, if_neg e3, if_neg e4, lget_nI (by omega)]
theorem pOpp_comm {x y : Int32} : pOpp x y = pOpp y x := by
  unfold pOpp
  by_cases h1 : x = y ∨ pKind x = 5 ∨ pKind y = 5
  · have h2 : y = x ∨ pKind y = 5 ∨ pKind x = 5 := by
      rcases h1 with h | h | h
      · exact Or.inl h.symm
      · exact Or.inr (Or.inr h)
      · exact Or.inr (Or.inl h)
    rw [if_pos h1, if_pos h2]
  · have h2 : ¬ (y = x ∨ pKind y = 5 ∨ pKind x = 5) := by
      rintro (h | h | h)
      · exact h1 (Or.inl h.symm)
      · exact h1 (Or.inr (Or.inr h))
      · exact h1 (Or.inr (Or.inl h))
    rw [if_neg h1, if_neg h2]
    by_cases h3 : pKind x = 1 ∧ pKind y = 1
    · have h5 : pKind y = 1 ∧ pKind x = 1 := ⟨h3.2, h3.1⟩
      rw [if_pos h3, if_pos h5]
      by_cases h4 : pFirst x = pFirst y
      · have h6 : pFirst y = pFirst x := h4.symm
        rw [if_pos h4, if_pos h6]
      · have h6 : ¬ pFirst y = pFirst x := fun q => h4 q.symm
        rw [if_neg h4, if_neg h6]
    · have h5 : ¬ (pKind y = 1 ∧ pKind x = 1) := fun q => h3 ⟨q.2, q.1⟩
      rw [if_neg h3, if_neg h5]
      by_cases h4 : pFirst x < pEnd y ∧ pFirst y < pEnd x
      · have h6 : pFirst y < pEnd x ∧ pFirst x < pEnd y := ⟨h4.2, h4.1⟩
        rw [if_pos h4, if_pos h6]
      · have h6 : ¬ (pFirst y < pEnd x ∧ pFirst x < pEnd y) := fun q => h4 ⟨q.2, q.1⟩
        rw [if_neg h4, if_neg h6]
theorem pMeets_0 {cs as : List Int32} {x : Int32} {j : Nat} (h : ¬ pMeets cs as x = true) (hj : j < cs.length) (h1 : as.getD j 0 = 1) : pOpp x (cs.getD j 0) = 0 := by
  by_cases q : pOpp x (cs.getD j 0) = 0
  · exact q
  · refine absurd ?_ h
    unfold pMeets
    rw [List.any_eq_true]
    refine ⟨j, List.mem_range.mpr hj, ?_⟩
    unfold pHit
    rw [decide_eq_true h1, decide_eq_true q]
    rfl
theorem sR_ans {st f : Nat → Int32} {t : TS} {k q : Nat} (h : sR st t.1) (hk : k < t.1.2.2.2.1.1.length) (hq : q < 2) (hb : q = 0 → ¬ pMeets t.1.2.2.2.1.1 t.1.2.2.2.1.2.1 (t.1.2.2.2.1.1.getD k 0) = true) (e1 : f (407 + 7 * k + 4) = nI (1 + q)) (e2 : f (6 + q) = st (6 + q) + 1) (e : ∀ r : Nat, r < 855 → r ≠ 407 + 7 * k + 4 → r ≠ 6 + q → f r = st r) : sR f (oAnsT (nI k) (nI q) t) := by
  obtain ⟨g0, g1, g2, g3, g4, g5, g6⟩ := h
  have a1 : (if nI q = 0 then (1 : Int32) else 2) = nI (1 + q) := by rcases (show q = 0 ∨ q = 1 by omega) with rfl | rfl <;> decide
  have a2 : (if nI q = 0 then (2 : Int32) else 3) = nI (2 + q) := by rcases (show q = 0 ∨ q = 1 by omega) with rfl | rfl <;> decide
  have k64 := g3.2.1
  unfold oAnsT
  rw [a1, a2, lset_nI (by omega)]
  have al := g3.2.2.1
  refine ⟨sTx_cg g0 (fun r hr hd => e r hr (by omega) (by omega)), by rw [e 1 (by omega) (by omega) (by omega)]; exact g1, sSh_cg g2 (Nat.le_refl _) (fun r hr hd => e r hr (by omega) (by omega)), ?_, sAc_0 (k := 2 + q) g4 (by omega) (by rw [show 4 + (2 + q) = 6 + q by omega, e2, ← g4.2.2.2.2.1 (2 + q) (by omega), show 4 + (2 + q) = 6 + q by omega]) (fun r hr hd => e r (by omega) (by omega) (by omega)), ?_, g6⟩
  · obtain ⟨h0, h1, h2, h3, h4, h5, h6⟩ := g3
    refine ⟨by rw [e 3 (by omega) (by omega) (by omega)]; exact h0, h1, by show (t.1.2.2.2.1.2.1.set k _).length = _; rw [List.length_set]; exact h2, h3, h4, h5, fun i hi => ?_⟩
    obtain ⟨c0, c1, c2, c3, c4, c5⟩ := h6 i hi
    have hi : i < t.1.2.2.2.1.1.length := hi
    refine ⟨mkR_cg c0 (fun j hj => e _ (by omega) (by omega) (by omega)), c1, ?_, ?_, by rw [e _ (by omega) (by omega) (by omega)]; exact c4, by rw [e _ (by omega) (by omega) (by omega)]; exact c5⟩
    · show f (407 + 7 * i + 4) = (t.1.2.2.2.1.2.1.set k _).getD i 0
      by_cases y : i = k
      · subst y
        rw [gDs_eq (by omega)]
        exact e1
      · rw [gDs_ne (Ne.symm y), e _ (by omega) (by omega) (by omega)]
        exact c2
    · show ∃ r : Nat, r < 3 ∧ (t.1.2.2.2.1.2.1.set k _).getD i 0 = nI r
      by_cases y : i = k
      · subst y
        rw [gDs_eq (by omega)]
        exact ⟨1 + q, by omega, rfl⟩
      · rw [gDs_ne (Ne.symm y)]
        exact c3
  · intro i j hi0 hj0 hx0 hy0
    have hi : i < t.1.2.2.2.1.1.length := hi0
    have hj : j < t.1.2.2.2.1.1.length := hj0
    have hx : (t.1.2.2.2.1.2.1.set k (nI (1 + q))).getD i 0 = 1 := hx0
    have hy : (t.1.2.2.2.1.2.1.set k (nI (1 + q))).getD j 0 = 1 := hy0
    show pOpp (t.1.2.2.2.1.1.getD i 0) (t.1.2.2.2.1.1.getD j 0) = 0
    have q0 : nI (1 + q) = 1 → q = 0 := fun y => by
      rcases (show q = 0 ∨ q = 1 by omega) with rfl | rfl
      · rfl
      · exact absurd y (by decide)
    by_cases y : i = k
    · subst y
      rw [gDs_eq (by omega)] at hx
      by_cases z : j = i
      · subst z
        exact if_pos (Or.inl rfl)
      · rw [gDs_ne (Ne.symm z)] at hy
        exact pMeets_0 (hb (q0 hx)) hj hy
    · rw [gDs_ne (Ne.symm y)] at hx
      by_cases z : j = k
      · subst z
        rw [gDs_eq (by omega)] at hy
        rw [pOpp_comm]
        exact pMeets_0 (hb (q0 hy)) hi hx
      · rw [gDs_ne (Ne.symm z)] at hy
        exact g5 i j hi hj hx hy
section PMO
variable {cs ns : List Int32} {j b : Nat}
theorem pMore_1 (hj : j < 1000) (hb : b < 1000) (h : ns.getD b 0 < ns.getD j 0) : pMore cs ns (nI j) (nI b) = true := by
  unfold pMore
  rw [lget_nI (by omega), lget_nI (by omega), if_neg (fun q => by rw [q] at h; exact Int32.lt_irrefl h)]
  exact decide_eq_true h
theorem pMore_2 (hj : j < 1000) (hb : b < 1000) (h : ns.getD j 0 = ns.getD b 0) (h2 : pFirst (cs.getD j 0) < pFirst (cs.getD b 0)) : pMore cs ns (nI j) (nI b) = true := by
  unfold pMore
  rw [lget_nI (by omega), lget_nI (by omega), if_pos h, lget_nI (by omega), lget_nI (by omega)]
  exact decide_eq_true h2
theorem pMore_3 (hj : j < 1000) (hb : b < 1000) (h : ¬ ns.getD b 0 < ns.getD j 0) (h2 : ¬ ns.getD j 0 = ns.getD b 0) : ¬ pMore cs ns (nI j) (nI b) = true := by
  unfold pMore
  rw [lget_nI (by omega), lget_nI (by omega), if_neg h2]
  exact fun q => h (of_decide_eq_true q)
theorem pMore_4 (hj : j < 1000) (hb : b < 1000) (h : ns.getD j 0 = ns.getD b 0) (h2 : ¬ pFirst (cs.getD j 0) < pFirst (cs.getD b 0)) : ¬ pMore cs ns (nI j) (nI b) = true := by
  unfold pMore
  rw [lget_nI (by omega), lget_nI (by omega), if_pos h, lget_nI (by omega), lget_nI (by omega)]
  exact fun q => h2 (of_decide_eq_true q)
theorem pBI_c {o : Option Nat} : pBI (-4) o = -4 ∨ ∃ b : Nat, o = some b ∧ pBI (-4) o = nI b := by
  cases o with
  | none => exact Or.inl rfl
  | some b => exact Or.inr ⟨b, rfl, rfl⟩
end PMO
section GNX
variable {p : Program} {l : Launch} {e : Env} {R : Room} {s : State} {m : MethodId} {args : Array Value} {below : List Frame} {meth : Method} {D : gD} {A : Nat → Prop} {nL hs cells slots : Nat} {Q : State → Prop} {G : gH} {pc : Nat} {rest : List Value} {c : Code} {o1 o2 o3 o4 o5 : Option Value} {x y : Int32}
theorem gx_nx (h : x = y) (kk : gX p l e R s m args below meth c D A nL hs cells slots Q G [o1, some (.int y), o2, o3, o4, o5] pc rest) : gX p l e R s m args below meth c D A nL hs cells slots Q G [o1, some (.int x), o2, o3, o4, o5] pc rest := h ▸ kk
end GNX
theorem cb_X9_count__X9_in : gCb yX9_in cX9_in 3 (some .boolean) wsX9_in (gR 0) (gR 5) 0 0 3 := ⟨rfl, rfl, rfl, by decide +kernel, by decide⟩
set_option maxRecDepth 20000 in
theorem in_X9_count_X9 : ∀ w ∈ wsX90, w ∈ wsX9_count := by decide +kernel
set_option maxRecDepth 20000 in
theorem fd_X9_count_7 : gFd wsX9_count RX9 7 8 RX9 TX9 11 0 := ⟨in_X9_count_X9, rfl, by decide, by decide +kernel⟩
theorem cb_X9_count__X9_inState : gCb yX9_inState cX9_inState 4 (some .int) wsX9_inState (gR 1) (gR 5) 0 0 1 := ⟨rfl, rfl, rfl, by decide +kernel, by decide⟩
theorem cb_X9_count__X9_unanswered : gCb yX9_unanswered cX9_unanswered 3 (some .int) wsX9_unanswered (gR 1) (gR 5) 0 0 0 := ⟨rfl, rfl, rfl, by decide +kernel, by decide⟩
set_option maxRecDepth 20000 in
theorem fd_X9_count_25 : gFd wsX9_count RX9 25 8 RX9 TX9 11 2 := ⟨in_X9_count_X9, rfl, by decide, by decide +kernel⟩
set_option maxRecDepth 20000 in
theorem fd_X9_count_101 : gFd wsX9_count RX9 101 8 RX9 TX9 11 4 := ⟨in_X9_count_X9, rfl, by decide, by decide +kernel⟩
theorem cb_X9_count__X9_pairs : gCb yX9_pairs cX9_pairs 3 (some .int) wsX9_pairs (gR 4) (gR 5) 0 0 0 := ⟨rfl, rfl, rfl, by decide +kernel, by decide⟩
theorem cb_X9_count__X9_unmerged : gCb yX9_unmerged cX9_unmerged 3 (some .int) wsX9_unmerged (gR 1) (gR 5) 0 0 0 := ⟨rfl, rfl, rfl, by decide +kernel, by decide⟩
theorem cb_X9_markTold__X9_listed : gCb yX9_listed cX9_listed 1 (some .int) wsX9_listed (gR 0) (gR 4) 0 0 1 := ⟨rfl, rfl, rfl, by decide +kernel, by decide⟩
set_option maxRecDepth 20000 in
theorem in_X9_markTold_X9 : ∀ w ∈ wsX90, w ∈ wsX9_markTold := by decide +kernel
set_option maxRecDepth 20000 in
theorem fd_X9_markTold_7 : gFd wsX9_markTold RX9 7 8 RX9 TX9 11 0 := ⟨in_X9_markTold_X9, rfl, by decide, by decide +kernel⟩
theorem cb_X9_markTold__X9_lowest : gCb yX9_lowest cX9_lowest 3 (some .int) wsX9_lowest (gR 0) (gR 4) 0 0 1 := ⟨rfl, rfl, rfl, by decide +kernel, by decide⟩
theorem cb_X9_markTold__X9_againstMany : gCb yX9_againstMany cX9_againstMany 4 (some .int) wsX9_againstMany (gR 3) (gR 4) 0 0 1 := ⟨rfl, rfl, rfl, by decide +kernel, by decide⟩
theorem cb_X9_markTold__X9_isBarred : gCb yX9_isBarred cX9_isBarred 4 (some .boolean) wsX9_isBarred (gR 3) (gR 4) 0 0 1 := ⟨rfl, rfl, rfl, by decide +kernel, by decide⟩
theorem cb_X9_markTold__X9_numberOf : gCb yX9_numberOf cX9_numberOf 5 (some .int) wsX9_numberOf (gR 0) (gR 4) 0 0 2 := ⟨rfl, rfl, rfl, by decide +kernel, by decide⟩
theorem cb_X9_mark__X9_isMark : gCb yX9_isMark cX9_isMark 2 (some .boolean) wsX9_isMark (gR 1) (gR 5) 0 0 1 := ⟨rfl, rfl, rfl, by decide +kernel, by decide⟩
theorem cb_X9_mark__X9_in : gCb yX9_in cX9_in 3 (some .boolean) wsX9_in (gR 0) (gR 5) 0 0 3 := ⟨rfl, rfl, rfl, by decide +kernel, by decide⟩
theorem cb_X9_mark__X9_markTold : gCb yX9_markTold cX9_markTold 4 (some .int) wsX9_markTold (gR 4) (gR 5) 0 0 2 := ⟨rfl, rfl, rfl, by decide +kernel, by decide⟩
theorem cb_X9_answer__X9_isMark : gCb yX9_isMark cX9_isMark 2 (some .boolean) wsX9_isMark (gR 1) (gR 4) 0 0 1 := ⟨rfl, rfl, rfl, by decide +kernel, by decide⟩
theorem cb_X9_answer__X9_in : gCb yX9_in cX9_in 3 (some .boolean) wsX9_in (gR 0) (gR 4) 0 0 3 := ⟨rfl, rfl, rfl, by decide +kernel, by decide⟩
theorem cb_X9_answer__X9_listed : gCb yX9_listed cX9_listed 1 (some .int) wsX9_listed (gR 0) (gR 4) 0 0 1 := ⟨rfl, rfl, rfl, by decide +kernel, by decide⟩
set_option maxRecDepth 20000 in
theorem in_X9_answer_X9 : ∀ w ∈ wsX90, w ∈ wsX9_answer := by decide +kernel
set_option maxRecDepth 20000 in
theorem fd_X9_answer_7 : gFd wsX9_answer RX9 7 8 RX9 TX9 11 0 := ⟨in_X9_answer_X9, rfl, by decide, by decide +kernel⟩
theorem cb_X9_answer__X9_records : gCb yX9_records cX9_records 2 none wsX9_records (gR 0) (gR 4) 0 0 0 := ⟨rfl, rfl, rfl, by decide +kernel, by decide⟩
theorem cb_X9_answer__X9_unanswered : gCb yX9_unanswered cX9_unanswered 3 (some .int) wsX9_unanswered (gR 1) (gR 4) 0 0 0 := ⟨rfl, rfl, rfl, by decide +kernel, by decide⟩
theorem cb_X9_answer__X9_isBarred : gCb yX9_isBarred cX9_isBarred 4 (some .boolean) wsX9_isBarred (gR 3) (gR 4) 0 0 1 := ⟨rfl, rfl, rfl, by decide +kernel, by decide⟩
set_option maxRecDepth 20000 in
theorem in_X9_next_X9 : ∀ w ∈ wsX90, w ∈ wsX9_next := by decide +kernel
set_option maxRecDepth 20000 in
theorem fd_X9_next_7 : gFd wsX9_next RX9 7 8 RX9 TX9 11 0 := ⟨in_X9_next_X9, rfl, by decide, by decide +kernel⟩
theorem cb_X9_next__X9_listed : gCb yX9_listed cX9_listed 1 (some .int) wsX9_listed (gR 0) (gR 1) 0 0 1 := ⟨rfl, rfl, rfl, by decide +kernel, by decide⟩
set_option maxHeartbeats 600000 in
set_option maxRecDepth 100000 in
/-- X9_count -/
theorem k9_count (l : Launch) (D : gD) (A : Nat → Prop) (hs : Nat) {G : gH} {G0 : gH} {a : Nat} {t : TS} (h : gMw D G0 G a t) (z : Int32) : gM l yX9_count wsX9_count (gR 5) D A hs 0 0 [.ref a, .int z] G (gPi fun x G' => x = oCount z t ∧ gMw D G0 G' a t) := by
  refine gM_intro (by decide) rfl rfl (Nat.le_of_ble_eq_true rfl) ?_
  intro p e s m args below meth c C
  obtain ⟨st, pa, ty, md, rd, w5, hM, hR, hH, hT⟩ := h
  have h4 := hH.1
  have ht := hT.1
  have l1 := hR.1.2.1
  have l2 := hR.2.2.1.2.1
  have l3 := hR.2.2.2.1.2.1
  have hdef : (¬ pOut z 10 14 = 1 ∨ oCount z t = -1) → gX p l e (gR 5) s m args below meth c D A 2 hs 0 0 (MQ below (gQ D A hs 0 (gPi fun x G' => x = oCount z t ∧ gMw D G0 G' a t)) args s 0 0 A) G [some (.ref a), some (.int z)] 129 [] := by
    intro hz
    refine gx_iload_n C dX9_count_129 rfl ?_
    refine gx_bipush (v := 10) C dX9_count_130 (by decide) ?_
    refine gx_bipush (v := 14) C dX9_count_132 (by decide) ?_
    refine gx_callS C (k9_in l D A hs z 10 14) cb_X9_count__X9_in gX9_count_X9_in rfl rfl (Nat.le_of_ble_eq_true rfl) ⟨Nat.le_refl _, Nat.le_refl _⟩ dX9_count_134 (gx_ki fun r_134 G_134 h_134 => ?_)
    obtain ⟨rfl, rfl⟩ := h_134
    refine gx_if_eq (tgt := 154) C dX9_count_137 (by decide) (fun c_137 => ?_) (fun c_137 => ?_)
    · have e := hz.resolve_left (fun q => q (gz_o pOut_b c_137))
      refine gx_iconst (v := (-1)) C dX9_count_154 (by decide) ?_
      refine gx_zret (mc := 0) C rfl ?_ dX9_count_155
      first
      | exact ⟨_, rfl, e2.trans e.symm, gMw_mk hM hR hH hT⟩
      | exact ⟨_, rfl, e.symm, gMw_mk hM hR hH hT⟩
    · have h2 := pOut_0 (gz_p c_137)
      obtain ⟨q, hq, rfl⟩ : ∃ q : Nat, q < 15 ∧ z = nI q := by
        rcases pk_ix z (n := 15) (by decide) with q | q | q
        · exact absurd (Int32.lt_of_lt_of_le q (by decide)) (Int32.not_lt.mpr h2.1)
        · exact absurd (Int32.le_trans q h2.2) (by decide)
        · exact q
      have q10 : 10 ≤ q := by
        rcases Nat.lt_or_ge q 10 with y | y
        · exact absurd h2.1 (nI_ge (b := 10) y (by decide))
        · exact y
      have e := oCount_a (t := t) q10 (by omega)
      have e2 := hR.2.2.2.2.1.2.2.2.2.1 (q - 10) (by omega)
      refine gx_aload_n C dX9_count_140 rfl ?_
      refine gx_get C fd_X9_count_7 (hG := hM.2.1) (hv := by rfl) dX9_count_141 ?_
      refine gx_iconst (v := nI 4) C dX9_count_144 (by decide) ?_
      refine gx_iload_n C dX9_count_145 rfl ?_
      refine gx_iadd C dX9_count_146 ?_
      first | refine gx_top (nI_add _ _) ?_ | skip
      refine gx_bipush (v := nI 10) C dX9_count_147 (by decide) ?_
      refine gx_isub C dX9_count_149 ?_
      refine gx_top (y := nI (4 + (q - 10))) ((pk_sub (by omega)).trans (congrArg nI (by omega))) ?_
      refine gx_ialdN C (hG := (by first | exact hM.2.2.1 | exact hM.2.2.2.1 | exact hM.2.2.2.2.1 | exact hM.2.2.2.2.2.1 | exact hM.2.2.2.2.2.2)) (hk := by omega) (hn := by omega) dX9_count_150 ?_
      refine gx_goto (tgt := 155) C dX9_count_151 (by decide) ?_
      refine gx_zret (mc := 0) C rfl ?_ dX9_count_155
      first
      | exact ⟨_, rfl, e2.trans e.symm, gMw_mk hM hR hH hT⟩
      | exact ⟨_, rfl, e.symm, gMw_mk hM hR hH hT⟩
  refine gx_iload_n C dX9_count_0 rfl ?_
  refine gx_split 0 (fun c_1_0 => ?_) (fun c_1_0 => ?_)
  · refine gx_tableIn (off := 83) (tgt := 84) C dX9_count_1 (by rw [c_1_0]; decide) (by rw [c_1_0]; decide) (by rw [c_1_0]; rfl) (by decide) ?_
    have e : oCount z t = nI t.1.1.length := by rw [c_1_0, oCount, if_neg (by decide), if_pos rfl]
    have e2 := hR.1.1
    obtain rfl : z = nI 0 := c_1_0
    refine gx_aload_n C dX9_count_84 rfl ?_
    refine gx_get C fd_X9_count_7 (hG := hM.2.1) (hv := by rfl) dX9_count_85 ?_
    refine gx_iload_n C dX9_count_88 rfl ?_
    refine gx_ialdN C (hG := (by first | exact hM.2.2.1 | exact hM.2.2.2.1 | exact hM.2.2.2.2.1 | exact hM.2.2.2.2.2.1 | exact hM.2.2.2.2.2.2)) (hk := by omega) (hn := by omega) dX9_count_89 ?_
    refine gx_zret (mc := 0) C rfl ?_ dX9_count_90
    exact ⟨_, rfl, e2.trans e.symm, gMw_mk hM hR hH hT⟩
  -- else
  refine gx_split 1 (fun c_1_1 => ?_) (fun c_1_1 => ?_)
  · refine gx_tableIn (off := 83) (tgt := 84) C dX9_count_1 (by rw [c_1_1]; decide) (by rw [c_1_1]; decide) (by rw [c_1_1]; rfl) (by decide) ?_
    have e : oCount z t = t.1.2.1 := by rw [c_1_1, oCount, if_neg (by decide), if_neg (by decide), if_pos rfl]
    have e2 := hR.2.1
    obtain rfl : z = nI 1 := c_1_1
    refine gx_aload_n C dX9_count_84 rfl ?_
    refine gx_get C fd_X9_count_7 (hG := hM.2.1) (hv := by rfl) dX9_count_85 ?_
    refine gx_iload_n C dX9_count_88 rfl ?_
    refine gx_ialdN C (hG := (by first | exact hM.2.2.1 | exact hM.2.2.2.1 | exact hM.2.2.2.2.1 | exact hM.2.2.2.2.2.1 | exact hM.2.2.2.2.2.2)) (hk := by omega) (hn := by omega) dX9_count_89 ?_
    refine gx_zret (mc := 0) C rfl ?_ dX9_count_90
    exact ⟨_, rfl, e2.trans e.symm, gMw_mk hM hR hH hT⟩
  -- else
  refine gx_split 2 (fun c_1_2 => ?_) (fun c_1_2 => ?_)
  · refine gx_tableIn (off := 83) (tgt := 84) C dX9_count_1 (by rw [c_1_2]; decide) (by rw [c_1_2]; decide) (by rw [c_1_2]; rfl) (by decide) ?_
    have e : oCount z t = nI t.1.2.2.1.length := by rw [c_1_2, oCount, if_neg (by decide), if_neg (by decide), if_neg (by decide), if_pos rfl]
    have e2 := hR.2.2.1.1
    obtain rfl : z = nI 2 := c_1_2
    refine gx_aload_n C dX9_count_84 rfl ?_
    refine gx_get C fd_X9_count_7 (hG := hM.2.1) (hv := by rfl) dX9_count_85 ?_
    refine gx_iload_n C dX9_count_88 rfl ?_
    refine gx_ialdN C (hG := (by first | exact hM.2.2.1 | exact hM.2.2.2.1 | exact hM.2.2.2.2.1 | exact hM.2.2.2.2.2.1 | exact hM.2.2.2.2.2.2)) (hk := by omega) (hn := by omega) dX9_count_89 ?_
    refine gx_zret (mc := 0) C rfl ?_ dX9_count_90
    exact ⟨_, rfl, e2.trans e.symm, gMw_mk hM hR hH hT⟩
  -- else
  refine gx_split 3 (fun c_1_3 => ?_) (fun c_1_3 => ?_)
  · refine gx_tableIn (off := 90) (tgt := 91) C dX9_count_1 (by rw [c_1_3]; decide) (by rw [c_1_3]; decide) (by rw [c_1_3]; rfl) (by decide) ?_
    have e : oCount z t = nI (pShN t.1.2.2.1 0 t.1.2.2.1.length) := by rw [c_1_3, oCount, if_neg (by decide), if_neg (by decide), if_neg (by decide), if_neg (by decide), if_pos rfl]
    refine gx_aload_n C dX9_count_91 rfl ?_
    refine gx_iconst (v := 0) C dX9_count_92 (by decide) ?_
    refine gx_callV (ci := 8) (T := TX9) (N := 11) C (k9_inState l D A hs hM.2.1 hM.2.2.1 hR 0) cb_X9_count__X9_inState gX9_count_X9_inState rfl (hG := hM.2.1) rfl rfl (Nat.le_of_ble_eq_true rfl) ⟨Nat.le_refl _, Nat.le_refl _⟩ dX9_count_93 (gx_ki fun r_93 G_93 h_93 => ?_)
    obtain ⟨rfl, rfl⟩ := h_93
    refine gx_zret (mc := 0) C rfl ?_ dX9_count_96
    exact ⟨_, rfl, e.symm, gMw_mk hM hR hH hT⟩
  -- else
  refine gx_split 4 (fun c_1_4 => ?_) (fun c_1_4 => ?_)
  · refine gx_tableIn (off := 96) (tgt := 97) C dX9_count_1 (by rw [c_1_4]; decide) (by rw [c_1_4]; decide) (by rw [c_1_4]; rfl) (by decide) ?_
    have e : oCount z t = nI t.1.2.2.2.1.1.length := by rw [c_1_4, oCount, if_neg (by decide), if_neg (by decide), if_neg (by decide), if_neg (by decide), if_neg (by decide), if_pos rfl]
    refine gx_aload_n C dX9_count_97 rfl ?_
    refine gx_get C fd_X9_count_7 (hG := hM.2.1) (hv := by rfl) dX9_count_98 ?_
    refine gx_iconst (v := nI 3) C dX9_count_101 (by decide) ?_
    refine gx_ialdN C (hG := (by first | exact hM.2.2.1 | exact hM.2.2.2.1 | exact hM.2.2.2.2.1 | exact hM.2.2.2.2.2.1 | exact hM.2.2.2.2.2.2)) (hk := by omega) (hn := by omega) dX9_count_102 ?_
    rw [hR.2.2.2.1.1]
    refine gx_zret (mc := 0) C rfl ?_ dX9_count_103
    exact ⟨_, rfl, e.symm, gMw_mk hM hR hH hT⟩
  -- else
  refine gx_split 5 (fun c_1_5 => ?_) (fun c_1_5 => ?_)
  · refine gx_tableIn (off := 103) (tgt := 104) C dX9_count_1 (by rw [c_1_5]; decide) (by rw [c_1_5]; decide) (by rw [c_1_5]; rfl) (by decide) ?_
    have e : oCount z t = nI (pOpenN t.1.2.2.2.1.2.1 t.1.2.2.2.1.2.1.length) := by rw [c_1_5, oCount, if_neg (by decide), if_neg (by decide), if_neg (by decide), if_neg (by decide), if_neg (by decide), if_neg (by decide), if_pos rfl]
    refine gx_aload_n C dX9_count_104 rfl ?_
    refine gx_callV (ci := 8) (T := TX9) (N := 11) C (k9_unanswered l D A hs hM.2.1 hM.2.2.1 hR) cb_X9_count__X9_unanswered gX9_count_X9_unanswered rfl (hG := hM.2.1) rfl rfl (Nat.le_of_ble_eq_true rfl) ⟨Nat.le_refl _, Nat.le_refl _⟩ dX9_count_105 (gx_ki fun r_105 G_105 h_105 => ?_)
    obtain ⟨rfl, rfl⟩ := h_105
    refine gx_zret (mc := 0) C rfl ?_ dX9_count_108
    exact ⟨_, rfl, e.symm, gMw_mk hM hR hH hT⟩
  -- else
  refine gx_split 6 (fun c_1_6 => ?_) (fun c_1_6 => ?_)
  · refine gx_tableIn (off := 108) (tgt := 109) C dX9_count_1 (by rw [c_1_6]; decide) (by rw [c_1_6]; decide) (by rw [c_1_6]; rfl) (by decide) ?_
    have e : oCount z t = nI t.2.1.length := by rw [c_1_6, oCount, if_neg (by decide), if_neg (by decide), if_neg (by decide), if_neg (by decide), if_neg (by decide), if_neg (by decide), if_neg (by decide), if_pos rfl]
    refine gx_aload_n C dX9_count_109 rfl ?_
    refine gx_get C fd_X9_count_25 (hG := hM.2.1) (hv := by rfl) dX9_count_110 ?_
    refine gx_zret (mc := 0) C rfl ?_ dX9_count_113
    exact ⟨_, rfl, e.symm, gMw_mk hM hR hH hT⟩
  -- else
  refine gx_split 7 (fun c_1_7 => ?_) (fun c_1_7 => ?_)
  · refine gx_tableIn (off := 113) (tgt := 114) C dX9_count_1 (by rw [c_1_7]; decide) (by rw [c_1_7]; decide) (by rw [c_1_7]; rfl) (by decide) ?_
    have e : oCount z t = nI t.2.2.length := by rw [c_1_7, oCount, if_neg (by decide), if_neg (by decide), if_neg (by decide), if_neg (by decide), if_neg (by decide), if_neg (by decide), if_neg (by decide), if_neg (by decide), if_pos rfl]
    refine gx_aload_n C dX9_count_114 rfl ?_
    refine gx_get C fd_X9_count_101 (hG := hM.2.1) (hv := by rfl) dX9_count_115 ?_
    refine gx_zret (mc := 0) C rfl ?_ dX9_count_118
    exact ⟨_, rfl, e.symm, gMw_mk hM hR hH hT⟩
  -- else
  refine gx_split 8 (fun c_1_8 => ?_) (fun c_1_8 => ?_)
  · refine gx_tableIn (off := 118) (tgt := 119) C dX9_count_1 (by rw [c_1_8]; decide) (by rw [c_1_8]; decide) (by rw [c_1_8]; rfl) (by decide) ?_
    have e : oCount z t = nI (pPairS t.1.2.2.2.1.1 t.1.2.2.2.1.1.length t.1.2.2.2.1.1.length) / 2 := by rw [c_1_8, oCount, if_neg (by decide), if_neg (by decide), if_neg (by decide), if_neg (by decide), if_neg (by decide), if_neg (by decide), if_neg (by decide), if_neg (by decide), if_neg (by decide), if_pos rfl]
    refine gx_aload_n C dX9_count_119 rfl ?_
    refine gx_callV (ci := 8) (T := TX9) (N := 11) C (k9_pairs l D A hs hM.2.1 hM.2.2.1 hR) cb_X9_count__X9_pairs gX9_count_X9_pairs rfl (hG := hM.2.1) rfl rfl (Nat.le_of_ble_eq_true rfl) ⟨Nat.le_refl _, Nat.le_refl _⟩ dX9_count_120 (gx_ki fun r_120 G_120 h_120 => ?_)
    obtain ⟨rfl, rfl⟩ := h_120
    refine gx_zret (mc := 0) C rfl ?_ dX9_count_123
    exact ⟨_, rfl, e.symm, gMw_mk hM hR hH hT⟩
  -- else
  refine gx_split 9 (fun c_1_9 => ?_) (fun c_1_9 => ?_)
  · refine gx_tableIn (off := 128) (tgt := 129) C dX9_count_1 (by rw [c_1_9]; decide) (by rw [c_1_9]; decide) (by rw [c_1_9]; rfl) (by decide) ?_
    have hz : ¬ pOut z 10 14 = 1 ∨ oCount z t = -1 := Or.inr (by rw [c_1_9, oCount, if_neg (by decide), if_neg (by decide), if_neg (by decide), if_neg (by decide), if_neg (by decide), if_neg (by decide), if_neg (by decide), if_neg (by decide), if_neg (by decide), if_neg (by decide)])
    exact hdef hz
  -- else
  refine gx_split 10 (fun c_1_10 => ?_) (fun c_1_10 => ?_)
  · refine gx_tableIn (off := 128) (tgt := 129) C dX9_count_1 (by rw [c_1_10]; decide) (by rw [c_1_10]; decide) (by rw [c_1_10]; rfl) (by decide) ?_
    have hz : ¬ pOut z 10 14 = 1 ∨ oCount z t = -1 := Or.inl (by rw [c_1_10]; decide)
    exact hdef hz
  -- else
  refine gx_split 11 (fun c_1_11 => ?_) (fun c_1_11 => ?_)
  · refine gx_tableIn (off := 128) (tgt := 129) C dX9_count_1 (by rw [c_1_11]; decide) (by rw [c_1_11]; decide) (by rw [c_1_11]; rfl) (by decide) ?_
    have hz : ¬ pOut z 10 14 = 1 ∨ oCount z t = -1 := Or.inl (by rw [c_1_11]; decide)
    exact hdef hz
  -- else
  refine gx_split 12 (fun c_1_12 => ?_) (fun c_1_12 => ?_)
  · refine gx_tableIn (off := 128) (tgt := 129) C dX9_count_1 (by rw [c_1_12]; decide) (by rw [c_1_12]; decide) (by rw [c_1_12]; rfl) (by decide) ?_
    have hz : ¬ pOut z 10 14 = 1 ∨ oCount z t = -1 := Or.inl (by rw [c_1_12]; decide)
    exact hdef hz
  -- else
  refine gx_split 13 (fun c_1_13 => ?_) (fun c_1_13 => ?_)
  · refine gx_tableIn (off := 128) (tgt := 129) C dX9_count_1 (by rw [c_1_13]; decide) (by rw [c_1_13]; decide) (by rw [c_1_13]; rfl) (by decide) ?_
    have hz : ¬ pOut z 10 14 = 1 ∨ oCount z t = -1 := Or.inl (by rw [c_1_13]; decide)
    exact hdef hz
  -- else
  refine gx_split 14 (fun c_1_14 => ?_) (fun c_1_14 => ?_)
  · refine gx_tableIn (off := 128) (tgt := 129) C dX9_count_1 (by rw [c_1_14]; decide) (by rw [c_1_14]; decide) (by rw [c_1_14]; rfl) (by decide) ?_
    have hz : ¬ pOut z 10 14 = 1 ∨ oCount z t = -1 := Or.inl (by rw [c_1_14]; decide)
    exact hdef hz
  -- else
  refine gx_split 15 (fun c_1_15 => ?_) (fun c_1_15 => ?_)
  · refine gx_tableIn (off := 123) (tgt := 124) C dX9_count_1 (by rw [c_1_15]; decide) (by rw [c_1_15]; decide) (by rw [c_1_15]; rfl) (by decide) ?_
    have e : oCount z t = nI (pMkS t.1.2.2.1 0 t.1.2.2.1.length + pMkS t.1.2.2.1 1 t.1.2.2.1.length + pMkS t.1.2.2.1 2 t.1.2.2.1.length) := by rw [c_1_15, oCount, if_pos (by decide), oAcc, if_pos (by decide)]
    refine gx_aload_n C dX9_count_124 rfl ?_
    refine gx_callV (ci := 8) (T := TX9) (N := 11) C (k9_unmerged l D A hs hM.2.1 hM.2.2.1 hR) cb_X9_count__X9_unmerged gX9_count_X9_unmerged rfl (hG := hM.2.1) rfl rfl (Nat.le_of_ble_eq_true rfl) ⟨Nat.le_refl _, Nat.le_refl _⟩ dX9_count_125 (gx_ki fun r_125 G_125 h_125 => ?_)
    obtain ⟨rfl, rfl⟩ := h_125
    refine gx_zret (mc := 0) C rfl ?_ dX9_count_128
    exact ⟨_, rfl, e.symm, gMw_mk hM hR hH hT⟩
  -- else
  refine gx_split 16 (fun c_1_16 => ?_) (fun c_1_16 => ?_)
  · refine gx_tableIn (off := 103) (tgt := 104) C dX9_count_1 (by rw [c_1_16]; decide) (by rw [c_1_16]; decide) (by rw [c_1_16]; rfl) (by decide) ?_
    have e : oCount z t = nI (pOpenN t.1.2.2.2.1.2.1 t.1.2.2.2.1.2.1.length) := by rw [c_1_16, oCount, if_pos (by decide), oAcc, if_neg (by decide), if_pos (by decide)]
    refine gx_aload_n C dX9_count_104 rfl ?_
    refine gx_callV (ci := 8) (T := TX9) (N := 11) C (k9_unanswered l D A hs hM.2.1 hM.2.2.1 hR) cb_X9_count__X9_unanswered gX9_count_X9_unanswered rfl (hG := hM.2.1) rfl rfl (Nat.le_of_ble_eq_true rfl) ⟨Nat.le_refl _, Nat.le_refl _⟩ dX9_count_105 (gx_ki fun r_105 G_105 h_105 => ?_)
    obtain ⟨rfl, rfl⟩ := h_105
    refine gx_zret (mc := 0) C rfl ?_ dX9_count_108
    exact ⟨_, rfl, e.symm, gMw_mk hM hR hH hT⟩
  -- else
  refine gx_tableOut (tgt := 129) C dX9_count_1 (by have q_0 := gz_ne (n := 0) (by decide) c_1_0; have q_1 := gz_ne (n := 1) (by decide) c_1_1; have q_2 := gz_ne (n := 2) (by decide) c_1_2; have q_3 := gz_ne (n := 3) (by decide) c_1_3; have q_4 := gz_ne (n := 4) (by decide) c_1_4; have q_5 := gz_ne (n := 5) (by decide) c_1_5; have q_6 := gz_ne (n := 6) (by decide) c_1_6; have q_7 := gz_ne (n := 7) (by decide) c_1_7; have q_8 := gz_ne (n := 8) (by decide) c_1_8; have q_9 := gz_ne (n := 9) (by decide) c_1_9; have q_10 := gz_ne (n := 10) (by decide) c_1_10; have q_11 := gz_ne (n := 11) (by decide) c_1_11; have q_12 := gz_ne (n := 12) (by decide) c_1_12; have q_13 := gz_ne (n := 13) (by decide) c_1_13; have q_14 := gz_ne (n := 14) (by decide) c_1_14; have q_15 := gz_ne (n := 15) (by decide) c_1_15; have q_16 := gz_ne (n := 16) (by decide) c_1_16; omega) (by decide) ?_
  have hz : ¬ pOut z 10 14 = 1 ∨ oCount z t = -1 := Or.inr (by
    rw [oCount, if_neg (fun q => by
      have h2 := pOut_0 (v := z) (a := 10) (b := 16) (fun y => by rw [y] at q; exact absurd q (by decide))
      have l5 := Int32.le_iff_toInt_le.mp h2.1
      have l6 := Int32.le_iff_toInt_le.mp h2.2
      have l7 : (10 : Int32).toInt = 10 := by decide
      have l8 : (16 : Int32).toInt = 16 := by decide
      have q_10 := gz_ne (n := 10) (by decide) c_1_10
      have q_11 := gz_ne (n := 11) (by decide) c_1_11
      have q_12 := gz_ne (n := 12) (by decide) c_1_12
      have q_13 := gz_ne (n := 13) (by decide) c_1_13
      have q_14 := gz_ne (n := 14) (by decide) c_1_14
      have q_15 := gz_ne (n := 15) (by decide) c_1_15
      have q_16 := gz_ne (n := 16) (by decide) c_1_16
      omega), if_neg c_1_0, if_neg c_1_1, if_neg c_1_2, if_neg c_1_3, if_neg c_1_4, if_neg c_1_5, if_neg c_1_6, if_neg c_1_7, if_neg c_1_8])
  exact hdef hz
set_option maxHeartbeats 600000 in
set_option maxRecDepth 100000 in
/-- X9_markTold -/
theorem k9_markTold (l : Launch) (D : gD) (A : Nat → Prop) (hs : Nat) {G : gH} {a : Nat} {z : MI} {st : Nat → Int32} (ho : gMob G a z) (hs1 : gMst D G (a + 1) 855 st) {t : TS} (hR : sR st t.1) {k w : Nat} (hk : k < t.1.2.2.2.1.1.length) (hw : w < 9) : gM l yX9_markTold wsX9_markTold (gR 4) D A hs 0 0 [.ref a, .int (nI k), .int (nI w)] G (gPi fun x G' => x = oMark (nI k) (nI w) t ∧ G' = G) := by
  refine gM_intro (by decide) rfl rfl (Nat.le_of_ble_eq_true rfl) ?_
  intro p e s m args below meth c C
  have l3 := hR.2.2.2.1.2.1
  have lj := hR.2.2.2.1.2.2.2.2.2.2 k hk
  have e0 : oMark (nI k) (nI w) t = _ := if_neg (fun q => by
    rcases q with q | q
    · exact q (by rw [gIn_nI (by omega)]; exact decide_eq_true hk)
    · have n1 : ∀ w : Nat, w < 9 → pOut (nI w) 0 8 = 0 := by decide
      rw [n1 w hw] at q
      exact absurd q (by decide))
  refine gx_iload_n C dX9_markTold_0 rfl ?_
  refine gx_callS C (k9_listed l D A hs k) cb_X9_markTold__X9_listed gX9_markTold_X9_listed rfl rfl (Nat.le_of_ble_eq_true rfl) ⟨Nat.le_refl _, Nat.le_refl _⟩ dX9_markTold_1 (gx_ki fun r_1 G_1 h_1 => ?_)
  obtain ⟨rfl, rfl⟩ := h_1
  refine gx_istore_n C dX9_markTold_4 (by decide) ?_
  refine gx_iload_n C dX9_markTold_5 rfl ?_
  refine gx_split 4 (fun c_6_0 => ?_) (fun c_6_0 => ?_)
  · refine gx_tableIn (off := 34) (tgt := 40) C dX9_markTold_6 (by rw [c_6_0]; decide) (by rw [c_6_0]; decide) (by rw [c_6_0]; rfl) (by decide) ?_
    rw [if_pos c_6_0, lget_nI (by omega)] at e0
    refine gx_aload_n C dX9_markTold_40 rfl ?_
    refine gx_get C fd_X9_markTold_7 (hG := ho) (hv := by rfl) dX9_markTold_41 ?_
    refine gx_iload_n C dX9_markTold_44 rfl ?_
    refine gx_iconst (v := nI 4) C dX9_markTold_45 (by decide) ?_
    refine gx_iadd C dX9_markTold_46 ?_
    first | refine gx_top (nI_add _ _) ?_ | skip
    refine gx_ialdN C (hG := hs1) (hk := by omega) (hn := by omega) dX9_markTold_47 ?_
    rw [lj.2.2.1]
    refine gx_zret (mc := 0) C rfl ?_ dX9_markTold_48
    exact ⟨_, rfl, e0.symm, rfl⟩
  -- else
  refine gx_split 5 (fun c_6_1 => ?_) (fun c_6_1 => ?_)
  · refine gx_tableIn (off := 43) (tgt := 49) C dX9_markTold_6 (by rw [c_6_1]; decide) (by rw [c_6_1]; decide) (by rw [c_6_1]; rfl) (by decide) ?_
    rw [if_neg c_6_0, if_pos c_6_1, lget_nI (by omega)] at e0
    refine gx_aload_n C dX9_markTold_49 rfl ?_
    refine gx_get C fd_X9_markTold_7 (hG := ho) (hv := by rfl) dX9_markTold_50 ?_
    refine gx_iload_n C dX9_markTold_53 rfl ?_
    refine gx_iconst (v := nI 5) C dX9_markTold_54 (by decide) ?_
    refine gx_iadd C dX9_markTold_55 ?_
    first | refine gx_top (nI_add _ _) ?_ | skip
    refine gx_ialdN C (hG := hs1) (hk := by omega) (hn := by omega) dX9_markTold_56 ?_
    rw [lj.2.2.2.2.1]
    refine gx_zret (mc := 0) C rfl ?_ dX9_markTold_57
    exact ⟨_, rfl, e0.symm, rfl⟩
  -- else
  refine gx_split 6 (fun c_6_2 => ?_) (fun c_6_2 => ?_)
  · refine gx_tableIn (off := 52) (tgt := 58) C dX9_markTold_6 (by rw [c_6_2]; decide) (by rw [c_6_2]; decide) (by rw [c_6_2]; rfl) (by decide) ?_
    rw [if_neg c_6_0, if_neg c_6_1, if_pos c_6_2, lget_nI (by omega)] at e0
    obtain ⟨q, b, lo1, hq, lo2, hb, ht, h0⟩ := lj.2.2.2.2.2
    refine gx_aload_n C dX9_markTold_58 rfl ?_
    refine gx_aload_n C dX9_markTold_59 rfl ?_
    refine gx_get C fd_X9_markTold_7 (hG := ho) (hv := by rfl) dX9_markTold_60 ?_
    refine gx_iload_n C dX9_markTold_63 rfl ?_
    refine gx_bipush (v := nI 6) C dX9_markTold_64 (by decide) ?_
    refine gx_iadd C dX9_markTold_66 ?_
    first | refine gx_top (nI_add _ _) ?_ | skip
    refine gx_ialdN C (hG := hs1) (hk := by omega) (hn := by omega) dX9_markTold_67 ?_
    rw [lo1]
    refine gx_callV (ci := 8) (T := TX9) (N := 11) C (k9_lowest l D A hs hq hb ht h0) cb_X9_markTold__X9_lowest gX9_markTold_X9_lowest rfl (hG := ho) rfl rfl (Nat.le_of_ble_eq_true rfl) ⟨Nat.le_refl _, Nat.le_refl _⟩ dX9_markTold_68 (gx_ki fun r_68 G_68 h_68 => ?_)
    obtain ⟨rfl, rfl⟩ := h_68
    refine gx_zret (mc := 0) C rfl ?_ dX9_markTold_71
    exact ⟨_, rfl, lo2.symm.trans e0.symm, rfl⟩
  -- else
  refine gx_split 7 (fun c_6_3 => ?_) (fun c_6_3 => ?_)
  · refine gx_tableIn (off := 66) (tgt := 72) C dX9_markTold_6 (by rw [c_6_3]; decide) (by rw [c_6_3]; decide) (by rw [c_6_3]; rfl) (by decide) ?_
    rw [if_neg c_6_0, if_neg c_6_1, if_neg c_6_2, if_pos c_6_3, lget_nI (by omega)] at e0
    refine gx_aload_n C dX9_markTold_72 rfl ?_
    refine gx_iload_n C dX9_markTold_73 rfl ?_
    refine gx_callV (ci := 8) (T := TX9) (N := 11) C (k9_againstMany l D A hs ho hs1 hR lj.1 (by omega) lj.2.1) cb_X9_markTold__X9_againstMany gX9_markTold_X9_againstMany rfl (hG := ho) rfl rfl (Nat.le_of_ble_eq_true rfl) ⟨Nat.le_refl _, Nat.le_refl _⟩ dX9_markTold_74 (gx_ki fun r_74 G_74 h_74 => ?_)
    obtain ⟨rfl, rfl⟩ := h_74
    refine gx_zret (mc := 0) C rfl ?_ dX9_markTold_77
    exact ⟨_, rfl, e0.symm, rfl⟩
  -- else
  refine gx_split 8 (fun c_6_4 => ?_) (fun c_6_4 => ?_)
  · refine gx_tableIn (off := 72) (tgt := 78) C dX9_markTold_6 (by rw [c_6_4]; decide) (by rw [c_6_4]; decide) (by rw [c_6_4]; rfl) (by decide) ?_
    rw [if_neg c_6_0, if_neg c_6_1, if_neg c_6_2, if_neg c_6_3, if_pos c_6_4, lget_nI (by omega), lget_nI (by omega)] at e0
    refine gx_aload_n C dX9_markTold_78 rfl ?_
    refine gx_get C fd_X9_markTold_7 (hG := ho) (hv := by rfl) dX9_markTold_79 ?_
    refine gx_iload_n C dX9_markTold_82 rfl ?_
    refine gx_iconst (v := nI 4) C dX9_markTold_83 (by decide) ?_
    refine gx_iadd C dX9_markTold_84 ?_
    first | refine gx_top (nI_add _ _) ?_ | skip
    refine gx_ialdN C (hG := hs1) (hk := by omega) (hn := by omega) dX9_markTold_85 ?_
    rw [lj.2.2.1]
    refine gx_if_ne (tgt := 101) C dX9_markTold_86 (by decide) (fun c_86 => ?_) (fun c_86 => ?_)
    · rw [if_neg (fun q => c_86 q.1)] at e0
      refine gx_iconst (v := 0) C dX9_markTold_101 (by decide) ?_
      refine gx_zret (mc := 0) C rfl ?_ dX9_markTold_102
      exact ⟨_, rfl, e0.symm, rfl⟩
    · refine gx_aload_n C dX9_markTold_89 rfl ?_
      refine gx_iload_n C dX9_markTold_90 rfl ?_
      refine gx_callV (ci := 8) (T := TX9) (N := 11) C (k9_isBarred l D A hs ho hs1 hR lj.1 (by omega) lj.2.1) cb_X9_markTold__X9_isBarred gX9_markTold_X9_isBarred rfl (hG := ho) rfl rfl (Nat.le_of_ble_eq_true rfl) ⟨Nat.le_refl _, Nat.le_refl _⟩ dX9_markTold_91 (gx_ki fun r_91 G_91 h_91 => ?_)
      obtain ⟨rfl, rfl⟩ := h_91
      refine gx_if_ne (tgt := 101) C dX9_markTold_94 (by decide) (fun c_94 => ?_) (fun c_94 => ?_)
      · rw [if_neg (fun q => q.2 (gz_if1 c_94))] at e0
        refine gx_iconst (v := 0) C dX9_markTold_101 (by decide) ?_
        refine gx_zret (mc := 0) C rfl ?_ dX9_markTold_102
        exact ⟨_, rfl, e0.symm, rfl⟩
      · rw [if_pos ⟨c_86, gz_if0 c_94⟩] at e0
        refine gx_iconst (v := 1) C dX9_markTold_97 (by decide) ?_
        refine gx_goto (tgt := 102) C dX9_markTold_98 (by decide) ?_
        refine gx_zret (mc := 0) C rfl ?_ dX9_markTold_102
        exact ⟨_, rfl, e0.symm, rfl⟩
  -- else
  refine gx_tableOut (tgt := 103) C dX9_markTold_6 (by have q_0 := gz_ne (n := 4) (by decide) c_6_0; have q_1 := gz_ne (n := 5) (by decide) c_6_1; have q_2 := gz_ne (n := 6) (by decide) c_6_2; have q_3 := gz_ne (n := 7) (by decide) c_6_3; have q_4 := gz_ne (n := 8) (by decide) c_6_4; omega) (by decide) ?_
  rw [if_neg c_6_0, if_neg c_6_1, if_neg c_6_2, if_neg c_6_3, if_neg c_6_4, lget_nI (by omega)] at e0
  have hw4 : w < 4 := by
    rcases Nat.lt_or_ge w 4 with q | q
    · exact q
    · exfalso
      rcases (show w = 4 ∨ w = 5 ∨ w = 6 ∨ w = 7 ∨ w = 8 by omega) with rfl | rfl | rfl | rfl | rfl
      · exact c_6_0 rfl
      · exact c_6_1 rfl
      · exact c_6_2 rfl
      · exact c_6_3 rfl
      · exact c_6_4 rfl
  refine gx_aload_n C dX9_markTold_103 rfl ?_
  refine gx_iload_n C dX9_markTold_104 rfl ?_
  refine gx_iload_n C dX9_markTold_105 rfl ?_
  refine gx_callV (ci := 8) (T := TX9) (N := 11) C (k9_numberOf l D A hs ho hs1 lj.1 (by omega) w hw4) cb_X9_markTold__X9_numberOf gX9_markTold_X9_numberOf rfl (hG := ho) rfl rfl (Nat.le_of_ble_eq_true rfl) ⟨Nat.le_refl _, Nat.le_refl _⟩ dX9_markTold_106 (gx_ki fun r_106 G_106 h_106 => ?_)
  obtain ⟨rfl, rfl⟩ := h_106
  refine gx_zret (mc := 0) C rfl ?_ dX9_markTold_109
  exact ⟨_, rfl, e0.symm, rfl⟩
set_option maxHeartbeats 600000 in
set_option maxRecDepth 100000 in
/-- X9_mark -/
theorem k9_mark (l : Launch) (D : gD) (A : Nat → Prop) (hs : Nat) {G : gH} {G0 : gH} {a : Nat} {t : TS} (h : gMw D G0 G a t) (k w : Int32) : gM l yX9_mark wsX9_mark (gR 5) D A hs 0 0 [.ref a, .int k, .int w] G (gPi fun x G' => x = oMark k w t ∧ gMw D G0 G' a t) := by
  refine gM_intro (by decide) rfl rfl (Nat.le_of_ble_eq_true rfl) ?_
  intro p e s m args below meth c C
  obtain ⟨st, pa, ty, md, rd, w5, hM, hR, hH, hT⟩ := h
  have h4 := hH.1
  have ht := hT.1
  have l1 := hR.1.2.1
  have l2 := hR.2.2.1.2.1
  have l3 := hR.2.2.2.1.2.1
  refine gx_aload_n C dX9_mark_0 rfl ?_
  refine gx_iload_n C dX9_mark_1 rfl ?_
  refine gx_callV (ci := 8) (T := TX9) (N := 11) C (k9_isMark l D A hs hM.2.1 hM.2.2.1 hR k) cb_X9_mark__X9_isMark gX9_mark_X9_isMark rfl (hG := hM.2.1) rfl rfl (Nat.le_of_ble_eq_true rfl) ⟨Nat.le_refl _, Nat.le_refl _⟩ dX9_mark_2 (gx_ki fun r_2 G_2 h_2 => ?_)
  obtain ⟨rfl, rfl⟩ := h_2
  refine gx_if_eq (tgt := 27) C dX9_mark_5 (by decide) (fun c_5 => ?_) (fun c_5 => ?_)
  · have e : oMark k w t = -1 := if_pos (Or.inl (gz_if0 c_5))
    refine gx_iconst (v := (-1)) C dX9_mark_27 (by decide) ?_
    refine gx_zret (mc := 0) C rfl ?_ dX9_mark_28
    first
    | exact ⟨_, rfl, e.symm, gMw_mk hM hR hH hT⟩
    | exact ⟨_, rfl, rfl, gMw_mk hM hR hH hT⟩
  · have n1 := gz_if1 c_5
    refine gx_iload_n C dX9_mark_8 rfl ?_
    refine gx_iconst (v := 0) C dX9_mark_9 (by decide) ?_
    refine gx_bipush (v := 8) C dX9_mark_10 (by decide) ?_
    refine gx_callS C (k9_in l D A hs w 0 8) cb_X9_mark__X9_in gX9_mark_X9_in rfl rfl (Nat.le_of_ble_eq_true rfl) ⟨Nat.le_refl _, Nat.le_refl _⟩ dX9_mark_12 (gx_ki fun r_12 G_12 h_12 => ?_)
    obtain ⟨rfl, rfl⟩ := h_12
    refine gx_if_eq (tgt := 27) C dX9_mark_15 (by decide) (fun c_15 => ?_) (fun c_15 => ?_)
    · have e : oMark k w t = -1 := if_pos (Or.inr (gz_o pOut_b c_15))
      refine gx_iconst (v := (-1)) C dX9_mark_27 (by decide) ?_
      refine gx_zret (mc := 0) C rfl ?_ dX9_mark_28
      first
      | exact ⟨_, rfl, e.symm, gMw_mk hM hR hH hT⟩
      | exact ⟨_, rfl, rfl, gMw_mk hM hR hH hT⟩
    · obtain ⟨q, hk, rfl⟩ := gIn_ex n1 (by omega)
      obtain ⟨r, hw, rfl⟩ := pRn (b := 8) (by decide) (gz_p c_15)
      refine gx_aload_n C dX9_mark_18 rfl ?_
      refine gx_iload_n C dX9_mark_19 rfl ?_
      refine gx_iload_n C dX9_mark_20 rfl ?_
      refine gx_callV (ci := 8) (T := TX9) (N := 11) C (k9_markTold l D A hs hM.2.1 hM.2.2.1 hR hk hw) cb_X9_mark__X9_markTold gX9_mark_X9_markTold rfl (hG := hM.2.1) rfl rfl (Nat.le_of_ble_eq_true rfl) ⟨Nat.le_refl _, Nat.le_refl _⟩ dX9_mark_21 (gx_ki fun r_21 G_21 h_21 => ?_)
      obtain ⟨rfl, rfl⟩ := h_21
      refine gx_goto (tgt := 28) C dX9_mark_24 (by decide) ?_
      refine gx_zret (mc := 0) C rfl ?_ dX9_mark_28
      first
      | exact ⟨_, rfl, e.symm, gMw_mk hM hR hH hT⟩
      | exact ⟨_, rfl, rfl, gMw_mk hM hR hH hT⟩
set_option maxHeartbeats 600000 in
set_option maxRecDepth 100000 in
/-- X9_answer -/
theorem k9_answer (l : Launch) (D : gD) (A : Nat → Prop) (hs : Nat) {G : gH} {G0 : gH} {a : Nat} {t : TS} (h : gMw D G0 G a t) (u y : Int32) : gM l yX9_answer wsX9_answer (gR 4) D A hs 0 0 [.ref a, .int u, .int y] G (gPi fun x G' => x = (oAnswer u y t).1 ∧ gMw D G0 G' a (oAnswer u y t).2) := by
  refine gM_intro (by decide) rfl rfl (Nat.le_of_ble_eq_true rfl) ?_
  intro p e s m args below meth c C
  obtain ⟨st, pa, ty, md, rd, w, hM, hR, hH, hT⟩ := h
  have h4 := hH.1
  have ht := hT.1
  have l1 := hR.1.2.1
  have l2 := hR.2.2.1.2.1
  have l3 := hR.2.2.2.1.2.1
  refine gx_aload_n C dX9_answer_0 rfl ?_
  refine gx_iload_n C dX9_answer_1 rfl ?_
  refine gx_callV (ci := 8) (T := TX9) (N := 11) C (k9_isMark l D A hs hM.2.1 hM.2.2.1 hR u) cb_X9_answer__X9_isMark gX9_answer_X9_isMark rfl (hG := hM.2.1) rfl rfl (Nat.le_of_ble_eq_true rfl) ⟨Nat.le_refl _, Nat.le_refl _⟩ dX9_answer_2 (gx_ki fun r_2 G_2 h_2 => ?_)
  obtain ⟨rfl, rfl⟩ := h_2
  refine gx_if_eq (tgt := 17) C dX9_answer_5 (by decide) (fun c_5 => ?_) (fun c_5 => ?_)
  · have e : oAnswer u y t = (-1, t) := if_pos (Or.inl (gz_if0 c_5))
    refine gx_iconst (v := (-1)) C dX9_answer_17 (by decide) ?_
    refine gx_zret (mc := 0) C rfl ?_ dX9_answer_18
    exact ⟨_, rfl, by rw [e], by rw [e]; exact ⟨st, pa, ty, md, rd, w, hM, hR, hH, hT⟩⟩
  · refine gx_iload_n C dX9_answer_8 rfl ?_
    refine gx_iconst (v := 0) C dX9_answer_9 (by decide) ?_
    refine gx_iconst (v := 1) C dX9_answer_10 (by decide) ?_
    refine gx_callS C (k9_in l D A hs y 0 1) cb_X9_answer__X9_in gX9_answer_X9_in rfl rfl (Nat.le_of_ble_eq_true rfl) ⟨Nat.le_refl _, Nat.le_refl _⟩ dX9_answer_11 (gx_ki fun r_11 G_11 h_11 => ?_)
    obtain ⟨rfl, rfl⟩ := h_11
    refine gx_if_ne (tgt := 19) C dX9_answer_14 (by decide) (fun c_14 => ?_) (fun c_14 => ?_)
    · have e1 : ¬ (¬ gIn u t.1.2.2.2.1.1.length = true ∨ pOut y 0 1 = 1) := fun q => q.elim (fun q => q (gz_if1 c_5)) (gz_p c_14)
      obtain ⟨k, hk, rfl⟩ := gIn_ex (gz_if1 c_5) (by omega)
      obtain ⟨q, hq, rfl⟩ := pRn (b := 1) (by decide) (gz_p c_14)
      have lj := hR.2.2.2.1.2.2.2.2.2.2 k hk
      have lg : lget t.1.2.2.2.1.2.1 (nI k) = t.1.2.2.2.1.2.1.getD k 0 := lget_nI (by omega)
      have lc : lget t.1.2.2.2.1.1 (nI k) = t.1.2.2.2.1.1.getD k 0 := lget_nI (by omega)
      refine gx_iload_n C dX9_answer_19 rfl ?_
      refine gx_callS C (k9_listed l D A hs k) cb_X9_answer__X9_listed gX9_answer_X9_listed rfl rfl (Nat.le_of_ble_eq_true rfl) ⟨Nat.le_refl _, Nat.le_refl _⟩ dX9_answer_20 (gx_ki fun r_20 G_20 h_20 => ?_)
      obtain ⟨rfl, rfl⟩ := h_20
      refine gx_istore_n C dX9_answer_23 (by decide) ?_
      refine gx_aload_n C dX9_answer_24 rfl ?_
      refine gx_get C fd_X9_answer_7 (hG := hM.2.1) (hv := by rfl) dX9_answer_25 ?_
      refine gx_iload_n C dX9_answer_28 rfl ?_
      refine gx_iconst (v := nI 4) C dX9_answer_29 (by decide) ?_
      refine gx_iadd C dX9_answer_30 ?_
      first | refine gx_top (nI_add _ _) ?_ | skip
      refine gx_ialdN C (hG := (by first | exact hM.2.2.1 | exact hM.2.2.2.1 | exact hM.2.2.2.2.1 | exact hM.2.2.2.2.2.1 | exact hM.2.2.2.2.2.2)) (hk := by omega) (hn := by omega) dX9_answer_31 ?_
      rw [lj.2.2.1]
      refine gx_if_ne (tgt := 47) C dX9_answer_32 (by decide) (fun c_32 => ?_) (fun c_32 => ?_)
      · have e : oAnswer (nI k) (nI q) t = (-2, t) := by rw [oAnswer, if_neg e1, if_pos (by rw [lg]; exact c_32)]
        refine gx_bipush (v := (-2)) C dX9_answer_47 (by decide) ?_
        refine gx_zret (mc := 0) C rfl ?_ dX9_answer_49
        exact ⟨_, rfl, by rw [e], by rw [e]; exact ⟨st, pa, ty, md, rd, w, hM, hR, hH, hT⟩⟩
      · refine gx_iload_n C dX9_answer_35 rfl ?_
        refine gx_if_ne (tgt := 50) C dX9_answer_36 (by decide) (fun c_36 => ?_) (fun c_36 => ?_)
        · have hb : q = 0 → ¬ pMeets t.1.2.2.2.1.1 t.1.2.2.2.1.2.1 (t.1.2.2.2.1.1.getD k 0) = true := fun y => absurd (by rw [y]; rfl) c_36
          refine gx_aload_n C dX9_answer_50 rfl ?_
          refine gx_callV (ci := 8) (T := TX9) (N := 11) C (k9_records l D A hs hM hH hR) cb_X9_answer__X9_records gX9_answer_X9_records rfl (hG := hM.2.1) rfl rfl (Nat.le_of_ble_eq_true rfl) ⟨Nat.le_refl _, Nat.le_refl _⟩ dX9_answer_51 (gx_kv fun G_51 h_51 => ?_)
          have hH0 := hH
          obtain ⟨pa2, hM, hH⟩ := h_51
          refine gx_aload_n C dX9_answer_54 rfl ?_
          refine gx_get C fd_X9_answer_7 (hG := hM.2.1) (hv := by rfl) dX9_answer_55 ?_
          refine gx_iload_n C dX9_answer_58 rfl ?_
          refine gx_iconst (v := nI 4) C dX9_answer_59 (by decide) ?_
          refine gx_iadd C dX9_answer_60 ?_
          first | refine gx_top (nI_add _ _) ?_ | skip
          refine gx_iconst (v := nI 1) C dX9_answer_61 (by decide) ?_
          refine gx_iload_n C dX9_answer_62 rfl ?_
          refine gx_iadd C dX9_answer_63 ?_
          first | refine gx_top (nI_add _ _) ?_ | skip
          refine gx_iastN C (hG := (by first | exact hM.2.2.1 | exact hM.2.2.2.1 | exact hM.2.2.2.2.1 | exact hM.2.2.2.2.2.1 | exact hM.2.2.2.2.2.2)) (hk := by omega) (hn := by omega) dX9_answer_64 ?_
          refine gx_stM hM (fun hM => ?_)
          refine gx_aload_n C dX9_answer_65 rfl ?_
          refine gx_get C fd_X9_answer_7 (hG := hM.2.1) (hv := by rfl) dX9_answer_66 ?_
          refine gx_bipush (v := nI 6) C dX9_answer_69 (by decide) ?_
          refine gx_iload_n C dX9_answer_71 rfl ?_
          refine gx_iadd C dX9_answer_72 ?_
          first | refine gx_top (nI_add _ _) ?_ | skip
          refine gx_dup2 C dX9_answer_73 rfl rfl ?_
          refine gx_ialdN C (hG := (by first | exact hM.2.2.1 | exact hM.2.2.2.1 | exact hM.2.2.2.2.1 | exact hM.2.2.2.2.2.1 | exact hM.2.2.2.2.2.2)) (hk := by omega) (hn := by omega) dX9_answer_74 ?_
          rw [pk_un (by omega)]
          refine gx_iconst (v := nI 1) C dX9_answer_75 (by decide) ?_
          refine gx_iadd C dX9_answer_76 ?_
          first | refine gx_top (nI_add _ _) ?_ | skip
          refine gx_iastN C (hG := (by first | exact hM.2.2.1 | exact hM.2.2.2.1 | exact hM.2.2.2.2.1 | exact hM.2.2.2.2.2.1 | exact hM.2.2.2.2.2.2)) (hk := by omega) (hn := by omega) dX9_answer_77 ?_
          refine gx_stM hM (fun hM => ?_)
          have hR2 := sR_ans (q := q) hR hk hq hb (by rw [pk_un (by omega)]; exact pk_us) pk_us (fun r hr h1 h2 => (pk_un h2).trans (pk_un h1))
          refine gx_aload_n C dX9_answer_78 rfl ?_
          refine gx_callV (ci := 8) (T := TX9) (N := 11) C (k9_unanswered l D A hs hM.2.1 hM.2.2.1 hR2) cb_X9_answer__X9_unanswered gX9_answer_X9_unanswered rfl (hG := hM.2.1) rfl rfl (Nat.le_of_ble_eq_true rfl) ⟨Nat.le_refl _, Nat.le_refl _⟩ dX9_answer_79 (gx_ki fun r_79 G_79 h_79 => ?_)
          obtain ⟨rfl, rfl⟩ := h_79
          refine gx_zret (mc := 0) C rfl ?_ dX9_answer_82
          have e : oAnswer (nI k) (nI q) t = (nI (pOpenN (oAnsT (nI k) (nI q) t).2.2.2.1.2.1 (oAnsT (nI k) (nI q) t).2.2.2.1.2.1.length), (oAnsT (nI k) (nI q) t, pRec t.2.1 t.1, t.2.2)) := by rw [oAnswer, if_neg e1, if_neg (by rw [lg]; exact fun y => y c_32), if_neg (fun y => hb ((nI_eq (b := 0) (by omega) (by omega)).mp y.1) (by rw [← lc]; exact y.2))]
          exact ⟨_, rfl, by rw [e], by rw [e]; exact ⟨_, _, ty, md, rd, w, hM, hR2, hH, hT⟩⟩
        · refine gx_aload_n C dX9_answer_39 rfl ?_
          refine gx_iload_n C dX9_answer_40 rfl ?_
          refine gx_callV (ci := 8) (T := TX9) (N := 11) C (k9_isBarred l D A hs hM.2.1 hM.2.2.1 hR lj.1 (by omega) lj.2.1) cb_X9_answer__X9_isBarred gX9_answer_X9_isBarred rfl (hG := hM.2.1) rfl rfl (Nat.le_of_ble_eq_true rfl) ⟨Nat.le_refl _, Nat.le_refl _⟩ dX9_answer_41 (gx_ki fun r_41 G_41 h_41 => ?_)
          obtain ⟨rfl, rfl⟩ := h_41
          refine gx_if_eq (tgt := 50) C dX9_answer_44 (by decide) (fun c_44 => ?_) (fun c_44 => ?_)
          · have hb : q = 0 → ¬ pMeets t.1.2.2.2.1.1 t.1.2.2.2.1.2.1 (t.1.2.2.2.1.1.getD k 0) = true := fun _ => gz_if0 c_44
            refine gx_aload_n C dX9_answer_50 rfl ?_
            refine gx_callV (ci := 8) (T := TX9) (N := 11) C (k9_records l D A hs hM hH hR) cb_X9_answer__X9_records gX9_answer_X9_records rfl (hG := hM.2.1) rfl rfl (Nat.le_of_ble_eq_true rfl) ⟨Nat.le_refl _, Nat.le_refl _⟩ dX9_answer_51 (gx_kv fun G_51 h_51 => ?_)
            have hH0 := hH
            obtain ⟨pa2, hM, hH⟩ := h_51
            refine gx_aload_n C dX9_answer_54 rfl ?_
            refine gx_get C fd_X9_answer_7 (hG := hM.2.1) (hv := by rfl) dX9_answer_55 ?_
            refine gx_iload_n C dX9_answer_58 rfl ?_
            refine gx_iconst (v := nI 4) C dX9_answer_59 (by decide) ?_
            refine gx_iadd C dX9_answer_60 ?_
            first | refine gx_top (nI_add _ _) ?_ | skip
            refine gx_iconst (v := nI 1) C dX9_answer_61 (by decide) ?_
            refine gx_iload_n C dX9_answer_62 rfl ?_
            refine gx_iadd C dX9_answer_63 ?_
            first | refine gx_top (nI_add _ _) ?_ | skip
            refine gx_iastN C (hG := (by first | exact hM.2.2.1 | exact hM.2.2.2.1 | exact hM.2.2.2.2.1 | exact hM.2.2.2.2.2.1 | exact hM.2.2.2.2.2.2)) (hk := by omega) (hn := by omega) dX9_answer_64 ?_
            refine gx_stM hM (fun hM => ?_)
            refine gx_aload_n C dX9_answer_65 rfl ?_
            refine gx_get C fd_X9_answer_7 (hG := hM.2.1) (hv := by rfl) dX9_answer_66 ?_
            refine gx_bipush (v := nI 6) C dX9_answer_69 (by decide) ?_
            refine gx_iload_n C dX9_answer_71 rfl ?_
            refine gx_iadd C dX9_answer_72 ?_
            first | refine gx_top (nI_add _ _) ?_ | skip
            refine gx_dup2 C dX9_answer_73 rfl rfl ?_
            refine gx_ialdN C (hG := (by first | exact hM.2.2.1 | exact hM.2.2.2.1 | exact hM.2.2.2.2.1 | exact hM.2.2.2.2.2.1 | exact hM.2.2.2.2.2.2)) (hk := by omega) (hn := by omega) dX9_answer_74 ?_
            rw [pk_un (by omega)]
            refine gx_iconst (v := nI 1) C dX9_answer_75 (by decide) ?_
            refine gx_iadd C dX9_answer_76 ?_
            first | refine gx_top (nI_add _ _) ?_ | skip
            refine gx_iastN C (hG := (by first | exact hM.2.2.1 | exact hM.2.2.2.1 | exact hM.2.2.2.2.1 | exact hM.2.2.2.2.2.1 | exact hM.2.2.2.2.2.2)) (hk := by omega) (hn := by omega) dX9_answer_77 ?_
            refine gx_stM hM (fun hM => ?_)
            have hR2 := sR_ans (q := q) hR hk hq hb (by rw [pk_un (by omega)]; exact pk_us) pk_us (fun r hr h1 h2 => (pk_un h2).trans (pk_un h1))
            refine gx_aload_n C dX9_answer_78 rfl ?_
            refine gx_callV (ci := 8) (T := TX9) (N := 11) C (k9_unanswered l D A hs hM.2.1 hM.2.2.1 hR2) cb_X9_answer__X9_unanswered gX9_answer_X9_unanswered rfl (hG := hM.2.1) rfl rfl (Nat.le_of_ble_eq_true rfl) ⟨Nat.le_refl _, Nat.le_refl _⟩ dX9_answer_79 (gx_ki fun r_79 G_79 h_79 => ?_)
            obtain ⟨rfl, rfl⟩ := h_79
            refine gx_zret (mc := 0) C rfl ?_ dX9_answer_82
            have e : oAnswer (nI k) (nI q) t = (nI (pOpenN (oAnsT (nI k) (nI q) t).2.2.2.1.2.1 (oAnsT (nI k) (nI q) t).2.2.2.1.2.1.length), (oAnsT (nI k) (nI q) t, pRec t.2.1 t.1, t.2.2)) := by rw [oAnswer, if_neg e1, if_neg (by rw [lg]; exact fun y => y c_32), if_neg (fun y => hb ((nI_eq (b := 0) (by omega) (by omega)).mp y.1) (by rw [← lc]; exact y.2))]
            exact ⟨_, rfl, by rw [e], by rw [e]; exact ⟨_, _, ty, md, rd, w, hM, hR2, hH, hT⟩⟩
          · have e : oAnswer (nI k) (nI q) t = (-2, t) := by rw [oAnswer, if_neg e1, if_neg (by rw [lg]; exact fun y => y c_32), if_pos ⟨c_36, by rw [lc]; exact gz_if1 c_44⟩]
            refine gx_bipush (v := (-2)) C dX9_answer_47 (by decide) ?_
            refine gx_zret (mc := 0) C rfl ?_ dX9_answer_49
            exact ⟨_, rfl, by rw [e], by rw [e]; exact ⟨st, pa, ty, md, rd, w, hM, hR, hH, hT⟩⟩
    · have e : oAnswer u y t = (-1, t) := if_pos (Or.inr (gz_o pOut_b c_14))
      refine gx_iconst (v := (-1)) C dX9_answer_17 (by decide) ?_
      refine gx_zret (mc := 0) C rfl ?_ dX9_answer_18
      exact ⟨_, rfl, by rw [e], by rw [e]; exact ⟨st, pa, ty, md, rd, w, hM, hR, hH, hT⟩⟩
set_option maxHeartbeats 600000 in
set_option maxRecDepth 100000 in
/-- X9_next -/
theorem k9_next (l : Launch) (D : gD) (A : Nat → Prop) (hs : Nat) {G : gH} {G0 : gH} {a : Nat} {t : TS} (h : gMw D G0 G a t) : gM l yX9_next wsX9_next (gR 1) D A hs 0 0 [.ref a] G (gPi fun x G' => x = oNext t ∧ gMw D G0 G' a t) := by
  refine gM_intro (by decide) rfl rfl (Nat.le_of_ble_eq_true rfl) ?_
  intro p e s m args below meth c C
  obtain ⟨st, pa, ty, md, rd, w, hM, hR, hH, hT⟩ := h
  have h4 := hH.1
  have ht := hT.1
  have l1 := hR.1.2.1
  have l2 := hR.2.2.1.2.1
  have l3 := hR.2.2.2.1.2.1
  have hloop : ∀ (n j : Nat) (o3 o4 o5 : Option Value), t.1.2.2.2.1.1.length < j + n → j ≤ t.1.2.2.2.1.1.length → gX p l e (gR 1) s m args below meth c D A 6 hs 0 0 (MQ below (gQ D A hs 0 (gPi fun x G' => x = oNext t ∧ gMw D G0 G' a t)) args s 0 0 A) G [some (.ref a), some (.int (pBI (-4) (pBest t.1.2.2.2.1.1 t.1.2.2.2.1.2.1 t.1.2.2.2.1.2.2.1 j))), some (.int (nI j)), o3, o4, o5] 5 [] := by
    intro n
    induction n with
    | zero => intro j o3 o4 o5 hm hj0; exact absurd hm (by omega)
    | succ n ih =>
      intro j o3 o4 o5 hm hj0
      refine gx_iload_n C dX9_next_5 rfl ?_
      refine gx_aload_n C dX9_next_6 rfl ?_
      refine gx_get C fd_X9_next_7 (hG := hM.2.1) (hv := by rfl) dX9_next_7 ?_
      refine gx_iconst (v := nI 3) C dX9_next_10 (by decide) ?_
      refine gx_ialdN C (hG := (by first | exact hM.2.2.1 | exact hM.2.2.2.1 | exact hM.2.2.2.2.1 | exact hM.2.2.2.2.2.1 | exact hM.2.2.2.2.2.2)) (hk := by omega) (hn := by omega) dX9_next_11 ?_
      rw [hR.2.2.2.1.1]
      refine gx_icmp_ge (tgt := 133) C dX9_next_12 (by decide) (fun c_12 => ?_) (fun c_12 => ?_)
      · have hj : ¬ j < t.1.2.2.2.1.1.length := fun q => nI_ge q (by omega) c_12
        refine gx_iload_n C dX9_next_133 rfl ?_
        refine gx_zret (mc := 0) C rfl ?_ dX9_next_134
        have j8 : j = t.1.2.2.2.1.1.length := by omega
        subst j8
        exact ⟨_, rfl, rfl, gMw_mk hM hR hH hT⟩
      · have hj : j < t.1.2.2.2.1.1.length := by
          rcases Nat.lt_or_ge (j) (t.1.2.2.2.1.1.length) with q | q
          · exact q
          · exact absurd (nI_le q (by omega)) c_12
        have lj := hR.2.2.2.1.2.2.2.2.2.2 j hj
        have hs9 := pBest_s (cs := t.1.2.2.2.1.1) (as := t.1.2.2.2.1.2.1) (ns := t.1.2.2.2.1.2.2.1) (d := -4) (by decide) (j := j) (by omega)
        have hc9 : pBI (-4) (pBest t.1.2.2.2.1.1 t.1.2.2.2.1.2.1 t.1.2.2.2.1.2.2.1 j) = -4 ∨ ∃ b : Nat, b < j ∧ pBI (-4) (pBest t.1.2.2.2.1.1 t.1.2.2.2.1.2.1 t.1.2.2.2.1.2.2.1 j) = nI b := by
          rcases pBI_c (o := pBest t.1.2.2.2.1.1 t.1.2.2.2.1.2.1 t.1.2.2.2.1.2.2.1 j) with q | ⟨b, q1, q2⟩
          · exact Or.inl q
          · exact Or.inr ⟨b, pBest_lt q1, q2⟩
        obtain ⟨B, hB⟩ : ∃ B, B = pBI (-4) (pBest t.1.2.2.2.1.1 t.1.2.2.2.1.2.1 t.1.2.2.2.1.2.2.1 j) := ⟨_, rfl⟩
        rw [← hB] at hs9 hc9 ⊢
        refine gx_iload_n C dX9_next_15 rfl ?_
        refine gx_callS C (k9_listed l D A hs j) cb_X9_next__X9_listed gX9_next_X9_listed rfl rfl (Nat.le_of_ble_eq_true rfl) ⟨Nat.le_refl _, Nat.le_refl _⟩ dX9_next_16 (gx_ki fun r_16 G_16 h_16 => ?_)
        obtain ⟨rfl, rfl⟩ := h_16
        refine gx_istore_n C dX9_next_19 (by decide) ?_
        refine gx_iload_n C dX9_next_20 rfl ?_
        refine gx_if_ge (tgt := 28) C dX9_next_21 (by decide) (fun c_21 => ?_) (fun c_21 => ?_)
        · obtain ⟨b, hb, rfl⟩ : ∃ b : Nat, b < j ∧ B = nI b := by
            rcases hc9 with q | q
            · rw [q] at c_21
              exact absurd c_21 (by decide)
            · exact q
          have lb := hR.2.2.2.1.2.2.2.2.2.2 b (by omega)
          refine gx_iload_n C dX9_next_28 rfl ?_
          refine gx_callS C (k9_listed l D A hs _) cb_X9_next__X9_listed gX9_next_X9_listed rfl rfl (Nat.le_of_ble_eq_true rfl) ⟨Nat.le_refl _, Nat.le_refl _⟩ dX9_next_29 (gx_ki fun r_29 G_29 h_29 => ?_)
          obtain ⟨rfl, rfl⟩ := h_29
          refine gx_istore C dX9_next_32 (by decide) ?_
          refine gx_aload_n C dX9_next_34 rfl ?_
          refine gx_get C fd_X9_next_7 (hG := hM.2.1) (hv := by rfl) dX9_next_35 ?_
          refine gx_iload_n C dX9_next_38 rfl ?_
          refine gx_iconst (v := nI 5) C dX9_next_39 (by decide) ?_
          refine gx_iadd C dX9_next_40 ?_
          first | refine gx_top (nI_add _ _) ?_ | skip
          refine gx_ialdN C (hG := (by first | exact hM.2.2.1 | exact hM.2.2.2.1 | exact hM.2.2.2.2.1 | exact hM.2.2.2.2.2.1 | exact hM.2.2.2.2.2.2)) (hk := by omega) (hn := by omega) dX9_next_41 ?_
          rw [lj.2.2.2.2.1]
          refine gx_aload_n C dX9_next_42 rfl ?_
          refine gx_get C fd_X9_next_7 (hG := hM.2.1) (hv := by rfl) dX9_next_43 ?_
          refine gx_iload C dX9_next_46 rfl ?_
          refine gx_iconst (v := nI 5) C dX9_next_48 (by decide) ?_
          refine gx_iadd C dX9_next_49 ?_
          first | refine gx_top (nI_add _ _) ?_ | skip
          refine gx_ialdN C (hG := (by first | exact hM.2.2.1 | exact hM.2.2.2.1 | exact hM.2.2.2.2.1 | exact hM.2.2.2.2.2.1 | exact hM.2.2.2.2.2.2)) (hk := by omega) (hn := by omega) dX9_next_50 ?_
          rw [lb.2.2.2.2.1]
          refine gx_icmp_gt (tgt := 94) C dX9_next_51 (by decide) (fun c_51 => ?_) (fun c_51 => ?_)
          · 
            refine gx_iconst (v := 1) C dX9_next_94 (by decide) ?_
            refine gx_goto (tgt := 99) C dX9_next_95 (by decide) ?_
            refine gx_istore C dX9_next_99 (by decide) ?_
            refine gx_aload_n C dX9_next_101 rfl ?_
            refine gx_get C fd_X9_next_7 (hG := hM.2.1) (hv := by rfl) dX9_next_102 ?_
            refine gx_iload_n C dX9_next_105 rfl ?_
            refine gx_iconst (v := nI 4) C dX9_next_106 (by decide) ?_
            refine gx_iadd C dX9_next_107 ?_
            first | refine gx_top (nI_add _ _) ?_ | skip
            refine gx_ialdN C (hG := (by first | exact hM.2.2.1 | exact hM.2.2.2.1 | exact hM.2.2.2.2.1 | exact hM.2.2.2.2.2.1 | exact hM.2.2.2.2.2.2)) (hk := by omega) (hn := by omega) dX9_next_108 ?_
            rw [lj.2.2.1]
            refine gx_if_ne (tgt := 125) C dX9_next_109 (by decide) (fun c_109 => ?_) (fun c_109 => ?_)
            · refine gx_iload_n C dX9_next_125 rfl ?_
              refine gx_istore_n C dX9_next_126 (by decide) ?_
              first | refine gx_iincN C dX9_next_127 rfl (by decide) ?_ | refine gx_iinc1 C dX9_next_127 rfl (by decide) ?_
              refine gx_goto (tgt := 5) C dX9_next_130 (by decide) ?_
              first
              | exact absurd rfl c_118
              | exact absurd c_118 (by decide)
              | (rw [if_neg c_109] at hs9; exact gx_nx hs9.symm (ih (j + 1) _ _ _ (by omega) (by omega)))
              | (rw [if_pos c_109, if_pos (Or.inl c_113)] at hs9; exact gx_nx hs9.symm (ih (j + 1) _ _ _ (by omega) (by omega)))
              | exact absurd hB0 c_113
              | (rw [if_pos c_109, if_pos (Or.inr (pMore_1 (by omega) (by omega) c_51))] at hs9; exact gx_nx hs9.symm (ih (j + 1) _ _ _ (by omega) (by omega)))
              | (rw [if_pos c_109, if_pos (Or.inr (pMore_2 (by omega) (by omega) c_71 (Int32.not_le.mp c_91)))] at hs9; exact gx_nx hs9.symm (ih (j + 1) _ _ _ (by omega) (by omega)))
              | (have n3 := pMore_3 (cs := t.1.2.2.2.1.1) (ns := t.1.2.2.2.1.2.2.1) (j := j) (b := b) (by omega) (by omega) c_51 c_71; rw [if_pos c_109, if_neg (fun q => q.elim c_113 n3)] at hs9; exact gx_nx hs9.symm (ih (j + 1) _ _ _ (by omega) (by omega)))
              | (have n3 := pMore_4 (cs := t.1.2.2.2.1.1) (ns := t.1.2.2.2.1.2.2.1) (j := j) (b := b) (by omega) (by omega) c_71 (Int32.not_lt.mpr c_91); rw [if_pos c_109, if_neg (fun q => q.elim c_113 n3)] at hs9; exact gx_nx hs9.symm (ih (j + 1) _ _ _ (by omega) (by omega)))
            · refine gx_iload_n C dX9_next_112 rfl ?_
              refine gx_if_lt (tgt := 121) C dX9_next_113 (by decide) (fun c_113 => ?_) (fun c_113 => ?_)
              · refine gx_iload_n C dX9_next_121 rfl ?_
                refine gx_goto (tgt := 126) C dX9_next_122 (by decide) ?_
                refine gx_istore_n C dX9_next_126 (by decide) ?_
                first | refine gx_iincN C dX9_next_127 rfl (by decide) ?_ | refine gx_iinc1 C dX9_next_127 rfl (by decide) ?_
                refine gx_goto (tgt := 5) C dX9_next_130 (by decide) ?_
                first
                | exact absurd rfl c_118
                | exact absurd c_118 (by decide)
                | (rw [if_neg c_109] at hs9; exact gx_nx hs9.symm (ih (j + 1) _ _ _ (by omega) (by omega)))
                | (rw [if_pos c_109, if_pos (Or.inl c_113)] at hs9; exact gx_nx hs9.symm (ih (j + 1) _ _ _ (by omega) (by omega)))
                | exact absurd hB0 c_113
                | (rw [if_pos c_109, if_pos (Or.inr (pMore_1 (by omega) (by omega) c_51))] at hs9; exact gx_nx hs9.symm (ih (j + 1) _ _ _ (by omega) (by omega)))
                | (rw [if_pos c_109, if_pos (Or.inr (pMore_2 (by omega) (by omega) c_71 (Int32.not_le.mp c_91)))] at hs9; exact gx_nx hs9.symm (ih (j + 1) _ _ _ (by omega) (by omega)))
                | (have n3 := pMore_3 (cs := t.1.2.2.2.1.1) (ns := t.1.2.2.2.1.2.2.1) (j := j) (b := b) (by omega) (by omega) c_51 c_71; rw [if_pos c_109, if_neg (fun q => q.elim c_113 n3)] at hs9; exact gx_nx hs9.symm (ih (j + 1) _ _ _ (by omega) (by omega)))
                | (have n3 := pMore_4 (cs := t.1.2.2.2.1.1) (ns := t.1.2.2.2.1.2.2.1) (j := j) (b := b) (by omega) (by omega) c_71 (Int32.not_lt.mpr c_91); rw [if_pos c_109, if_neg (fun q => q.elim c_113 n3)] at hs9; exact gx_nx hs9.symm (ih (j + 1) _ _ _ (by omega) (by omega)))
              · refine gx_iload C dX9_next_116 rfl ?_
                refine gx_if_eq (tgt := 125) C dX9_next_118 (by decide) (fun c_118 => ?_) (fun c_118 => ?_)
                · refine gx_iload_n C dX9_next_125 rfl ?_
                  refine gx_istore_n C dX9_next_126 (by decide) ?_
                  first | refine gx_iincN C dX9_next_127 rfl (by decide) ?_ | refine gx_iinc1 C dX9_next_127 rfl (by decide) ?_
                  refine gx_goto (tgt := 5) C dX9_next_130 (by decide) ?_
                  first
                  | exact absurd rfl c_118
                  | exact absurd c_118 (by decide)
                  | (rw [if_neg c_109] at hs9; exact gx_nx hs9.symm (ih (j + 1) _ _ _ (by omega) (by omega)))
                  | (rw [if_pos c_109, if_pos (Or.inl c_113)] at hs9; exact gx_nx hs9.symm (ih (j + 1) _ _ _ (by omega) (by omega)))
                  | exact absurd hB0 c_113
                  | (rw [if_pos c_109, if_pos (Or.inr (pMore_1 (by omega) (by omega) c_51))] at hs9; exact gx_nx hs9.symm (ih (j + 1) _ _ _ (by omega) (by omega)))
                  | (rw [if_pos c_109, if_pos (Or.inr (pMore_2 (by omega) (by omega) c_71 (Int32.not_le.mp c_91)))] at hs9; exact gx_nx hs9.symm (ih (j + 1) _ _ _ (by omega) (by omega)))
                  | (have n3 := pMore_3 (cs := t.1.2.2.2.1.1) (ns := t.1.2.2.2.1.2.2.1) (j := j) (b := b) (by omega) (by omega) c_51 c_71; rw [if_pos c_109, if_neg (fun q => q.elim c_113 n3)] at hs9; exact gx_nx hs9.symm (ih (j + 1) _ _ _ (by omega) (by omega)))
                  | (have n3 := pMore_4 (cs := t.1.2.2.2.1.1) (ns := t.1.2.2.2.1.2.2.1) (j := j) (b := b) (by omega) (by omega) c_71 (Int32.not_lt.mpr c_91); rw [if_pos c_109, if_neg (fun q => q.elim c_113 n3)] at hs9; exact gx_nx hs9.symm (ih (j + 1) _ _ _ (by omega) (by omega)))
                · refine gx_iload_n C dX9_next_121 rfl ?_
                  refine gx_goto (tgt := 126) C dX9_next_122 (by decide) ?_
                  refine gx_istore_n C dX9_next_126 (by decide) ?_
                  first | refine gx_iincN C dX9_next_127 rfl (by decide) ?_ | refine gx_iinc1 C dX9_next_127 rfl (by decide) ?_
                  refine gx_goto (tgt := 5) C dX9_next_130 (by decide) ?_
                  first
                  | exact absurd rfl c_118
                  | exact absurd c_118 (by decide)
                  | (rw [if_neg c_109] at hs9; exact gx_nx hs9.symm (ih (j + 1) _ _ _ (by omega) (by omega)))
                  | (rw [if_pos c_109, if_pos (Or.inl c_113)] at hs9; exact gx_nx hs9.symm (ih (j + 1) _ _ _ (by omega) (by omega)))
                  | exact absurd hB0 c_113
                  | (rw [if_pos c_109, if_pos (Or.inr (pMore_1 (by omega) (by omega) c_51))] at hs9; exact gx_nx hs9.symm (ih (j + 1) _ _ _ (by omega) (by omega)))
                  | (rw [if_pos c_109, if_pos (Or.inr (pMore_2 (by omega) (by omega) c_71 (Int32.not_le.mp c_91)))] at hs9; exact gx_nx hs9.symm (ih (j + 1) _ _ _ (by omega) (by omega)))
                  | (have n3 := pMore_3 (cs := t.1.2.2.2.1.1) (ns := t.1.2.2.2.1.2.2.1) (j := j) (b := b) (by omega) (by omega) c_51 c_71; rw [if_pos c_109, if_neg (fun q => q.elim c_113 n3)] at hs9; exact gx_nx hs9.symm (ih (j + 1) _ _ _ (by omega) (by omega)))
                  | (have n3 := pMore_4 (cs := t.1.2.2.2.1.1) (ns := t.1.2.2.2.1.2.2.1) (j := j) (b := b) (by omega) (by omega) c_71 (Int32.not_lt.mpr c_91); rw [if_pos c_109, if_neg (fun q => q.elim c_113 n3)] at hs9; exact gx_nx hs9.symm (ih (j + 1) _ _ _ (by omega) (by omega)))
          · refine gx_aload_n C dX9_next_54 rfl ?_
            refine gx_get C fd_X9_next_7 (hG := hM.2.1) (hv := by rfl) dX9_next_55 ?_
            refine gx_iload_n C dX9_next_58 rfl ?_
            refine gx_iconst (v := nI 5) C dX9_next_59 (by decide) ?_
            refine gx_iadd C dX9_next_60 ?_
            first | refine gx_top (nI_add _ _) ?_ | skip
            refine gx_ialdN C (hG := (by first | exact hM.2.2.1 | exact hM.2.2.2.1 | exact hM.2.2.2.2.1 | exact hM.2.2.2.2.2.1 | exact hM.2.2.2.2.2.2)) (hk := by omega) (hn := by omega) dX9_next_61 ?_
            rw [lj.2.2.2.2.1]
            refine gx_aload_n C dX9_next_62 rfl ?_
            refine gx_get C fd_X9_next_7 (hG := hM.2.1) (hv := by rfl) dX9_next_63 ?_
            refine gx_iload C dX9_next_66 rfl ?_
            refine gx_iconst (v := nI 5) C dX9_next_68 (by decide) ?_
            refine gx_iadd C dX9_next_69 ?_
            first | refine gx_top (nI_add _ _) ?_ | skip
            refine gx_ialdN C (hG := (by first | exact hM.2.2.1 | exact hM.2.2.2.1 | exact hM.2.2.2.2.1 | exact hM.2.2.2.2.2.1 | exact hM.2.2.2.2.2.2)) (hk := by omega) (hn := by omega) dX9_next_70 ?_
            rw [lb.2.2.2.2.1]
            refine gx_icmp_ne (tgt := 98) C dX9_next_71 (by decide) (fun c_71 => ?_) (fun c_71 => ?_)
            · refine gx_iconst (v := 0) C dX9_next_98 (by decide) ?_
              refine gx_istore C dX9_next_99 (by decide) ?_
              refine gx_aload_n C dX9_next_101 rfl ?_
              refine gx_get C fd_X9_next_7 (hG := hM.2.1) (hv := by rfl) dX9_next_102 ?_
              refine gx_iload_n C dX9_next_105 rfl ?_
              refine gx_iconst (v := nI 4) C dX9_next_106 (by decide) ?_
              refine gx_iadd C dX9_next_107 ?_
              first | refine gx_top (nI_add _ _) ?_ | skip
              refine gx_ialdN C (hG := (by first | exact hM.2.2.1 | exact hM.2.2.2.1 | exact hM.2.2.2.2.1 | exact hM.2.2.2.2.2.1 | exact hM.2.2.2.2.2.2)) (hk := by omega) (hn := by omega) dX9_next_108 ?_
              rw [lj.2.2.1]
              refine gx_if_ne (tgt := 125) C dX9_next_109 (by decide) (fun c_109 => ?_) (fun c_109 => ?_)
              · refine gx_iload_n C dX9_next_125 rfl ?_
                refine gx_istore_n C dX9_next_126 (by decide) ?_
                first | refine gx_iincN C dX9_next_127 rfl (by decide) ?_ | refine gx_iinc1 C dX9_next_127 rfl (by decide) ?_
                refine gx_goto (tgt := 5) C dX9_next_130 (by decide) ?_
                first
                | exact absurd rfl c_118
                | exact absurd c_118 (by decide)
                | (rw [if_neg c_109] at hs9; exact gx_nx hs9.symm (ih (j + 1) _ _ _ (by omega) (by omega)))
                | (rw [if_pos c_109, if_pos (Or.inl c_113)] at hs9; exact gx_nx hs9.symm (ih (j + 1) _ _ _ (by omega) (by omega)))
                | exact absurd hB0 c_113
                | (rw [if_pos c_109, if_pos (Or.inr (pMore_1 (by omega) (by omega) c_51))] at hs9; exact gx_nx hs9.symm (ih (j + 1) _ _ _ (by omega) (by omega)))
                | (rw [if_pos c_109, if_pos (Or.inr (pMore_2 (by omega) (by omega) c_71 (Int32.not_le.mp c_91)))] at hs9; exact gx_nx hs9.symm (ih (j + 1) _ _ _ (by omega) (by omega)))
                | (have n3 := pMore_3 (cs := t.1.2.2.2.1.1) (ns := t.1.2.2.2.1.2.2.1) (j := j) (b := b) (by omega) (by omega) c_51 c_71; rw [if_pos c_109, if_neg (fun q => q.elim c_113 n3)] at hs9; exact gx_nx hs9.symm (ih (j + 1) _ _ _ (by omega) (by omega)))
                | (have n3 := pMore_4 (cs := t.1.2.2.2.1.1) (ns := t.1.2.2.2.1.2.2.1) (j := j) (b := b) (by omega) (by omega) c_71 (Int32.not_lt.mpr c_91); rw [if_pos c_109, if_neg (fun q => q.elim c_113 n3)] at hs9; exact gx_nx hs9.symm (ih (j + 1) _ _ _ (by omega) (by omega)))
              · refine gx_iload_n C dX9_next_112 rfl ?_
                refine gx_if_lt (tgt := 121) C dX9_next_113 (by decide) (fun c_113 => ?_) (fun c_113 => ?_)
                · refine gx_iload_n C dX9_next_121 rfl ?_
                  refine gx_goto (tgt := 126) C dX9_next_122 (by decide) ?_
                  refine gx_istore_n C dX9_next_126 (by decide) ?_
                  first | refine gx_iincN C dX9_next_127 rfl (by decide) ?_ | refine gx_iinc1 C dX9_next_127 rfl (by decide) ?_
                  refine gx_goto (tgt := 5) C dX9_next_130 (by decide) ?_
                  first
                  | exact absurd rfl c_118
                  | exact absurd c_118 (by decide)
                  | (rw [if_neg c_109] at hs9; exact gx_nx hs9.symm (ih (j + 1) _ _ _ (by omega) (by omega)))
                  | (rw [if_pos c_109, if_pos (Or.inl c_113)] at hs9; exact gx_nx hs9.symm (ih (j + 1) _ _ _ (by omega) (by omega)))
                  | exact absurd hB0 c_113
                  | (rw [if_pos c_109, if_pos (Or.inr (pMore_1 (by omega) (by omega) c_51))] at hs9; exact gx_nx hs9.symm (ih (j + 1) _ _ _ (by omega) (by omega)))
                  | (rw [if_pos c_109, if_pos (Or.inr (pMore_2 (by omega) (by omega) c_71 (Int32.not_le.mp c_91)))] at hs9; exact gx_nx hs9.symm (ih (j + 1) _ _ _ (by omega) (by omega)))
                  | (have n3 := pMore_3 (cs := t.1.2.2.2.1.1) (ns := t.1.2.2.2.1.2.2.1) (j := j) (b := b) (by omega) (by omega) c_51 c_71; rw [if_pos c_109, if_neg (fun q => q.elim c_113 n3)] at hs9; exact gx_nx hs9.symm (ih (j + 1) _ _ _ (by omega) (by omega)))
                  | (have n3 := pMore_4 (cs := t.1.2.2.2.1.1) (ns := t.1.2.2.2.1.2.2.1) (j := j) (b := b) (by omega) (by omega) c_71 (Int32.not_lt.mpr c_91); rw [if_pos c_109, if_neg (fun q => q.elim c_113 n3)] at hs9; exact gx_nx hs9.symm (ih (j + 1) _ _ _ (by omega) (by omega)))
                · refine gx_iload C dX9_next_116 rfl ?_
                  refine gx_if_eq (tgt := 125) C dX9_next_118 (by decide) (fun c_118 => ?_) (fun c_118 => ?_)
                  · refine gx_iload_n C dX9_next_125 rfl ?_
                    refine gx_istore_n C dX9_next_126 (by decide) ?_
                    first | refine gx_iincN C dX9_next_127 rfl (by decide) ?_ | refine gx_iinc1 C dX9_next_127 rfl (by decide) ?_
                    refine gx_goto (tgt := 5) C dX9_next_130 (by decide) ?_
                    first
                    | exact absurd rfl c_118
                    | exact absurd c_118 (by decide)
                    | (rw [if_neg c_109] at hs9; exact gx_nx hs9.symm (ih (j + 1) _ _ _ (by omega) (by omega)))
                    | (rw [if_pos c_109, if_pos (Or.inl c_113)] at hs9; exact gx_nx hs9.symm (ih (j + 1) _ _ _ (by omega) (by omega)))
                    | exact absurd hB0 c_113
                    | (rw [if_pos c_109, if_pos (Or.inr (pMore_1 (by omega) (by omega) c_51))] at hs9; exact gx_nx hs9.symm (ih (j + 1) _ _ _ (by omega) (by omega)))
                    | (rw [if_pos c_109, if_pos (Or.inr (pMore_2 (by omega) (by omega) c_71 (Int32.not_le.mp c_91)))] at hs9; exact gx_nx hs9.symm (ih (j + 1) _ _ _ (by omega) (by omega)))
                    | (have n3 := pMore_3 (cs := t.1.2.2.2.1.1) (ns := t.1.2.2.2.1.2.2.1) (j := j) (b := b) (by omega) (by omega) c_51 c_71; rw [if_pos c_109, if_neg (fun q => q.elim c_113 n3)] at hs9; exact gx_nx hs9.symm (ih (j + 1) _ _ _ (by omega) (by omega)))
                    | (have n3 := pMore_4 (cs := t.1.2.2.2.1.1) (ns := t.1.2.2.2.1.2.2.1) (j := j) (b := b) (by omega) (by omega) c_71 (Int32.not_lt.mpr c_91); rw [if_pos c_109, if_neg (fun q => q.elim c_113 n3)] at hs9; exact gx_nx hs9.symm (ih (j + 1) _ _ _ (by omega) (by omega)))
                  · refine gx_iload_n C dX9_next_121 rfl ?_
                    refine gx_goto (tgt := 126) C dX9_next_122 (by decide) ?_
                    refine gx_istore_n C dX9_next_126 (by decide) ?_
                    first | refine gx_iincN C dX9_next_127 rfl (by decide) ?_ | refine gx_iinc1 C dX9_next_127 rfl (by decide) ?_
                    refine gx_goto (tgt := 5) C dX9_next_130 (by decide) ?_
                    first
                    | exact absurd rfl c_118
                    | exact absurd c_118 (by decide)
                    | (rw [if_neg c_109] at hs9; exact gx_nx hs9.symm (ih (j + 1) _ _ _ (by omega) (by omega)))
                    | (rw [if_pos c_109, if_pos (Or.inl c_113)] at hs9; exact gx_nx hs9.symm (ih (j + 1) _ _ _ (by omega) (by omega)))
                    | exact absurd hB0 c_113
                    | (rw [if_pos c_109, if_pos (Or.inr (pMore_1 (by omega) (by omega) c_51))] at hs9; exact gx_nx hs9.symm (ih (j + 1) _ _ _ (by omega) (by omega)))
                    | (rw [if_pos c_109, if_pos (Or.inr (pMore_2 (by omega) (by omega) c_71 (Int32.not_le.mp c_91)))] at hs9; exact gx_nx hs9.symm (ih (j + 1) _ _ _ (by omega) (by omega)))
                    | (have n3 := pMore_3 (cs := t.1.2.2.2.1.1) (ns := t.1.2.2.2.1.2.2.1) (j := j) (b := b) (by omega) (by omega) c_51 c_71; rw [if_pos c_109, if_neg (fun q => q.elim c_113 n3)] at hs9; exact gx_nx hs9.symm (ih (j + 1) _ _ _ (by omega) (by omega)))
                    | (have n3 := pMore_4 (cs := t.1.2.2.2.1.1) (ns := t.1.2.2.2.1.2.2.1) (j := j) (b := b) (by omega) (by omega) c_71 (Int32.not_lt.mpr c_91); rw [if_pos c_109, if_neg (fun q => q.elim c_113 n3)] at hs9; exact gx_nx hs9.symm (ih (j + 1) _ _ _ (by omega) (by omega)))
            · refine gx_aload_n C dX9_next_74 rfl ?_
              refine gx_get C fd_X9_next_7 (hG := hM.2.1) (hv := by rfl) dX9_next_75 ?_
              refine gx_iload_n C dX9_next_78 rfl ?_
              refine gx_iconst (v := nI 1) C dX9_next_79 (by decide) ?_
              refine gx_iadd C dX9_next_80 ?_
              first | refine gx_top (nI_add _ _) ?_ | skip
              refine gx_ialdN C (hG := (by first | exact hM.2.2.1 | exact hM.2.2.2.1 | exact hM.2.2.2.2.1 | exact hM.2.2.2.2.2.1 | exact hM.2.2.2.2.2.2)) (hk := by omega) (hn := by omega) dX9_next_81 ?_
              rw [lj.1.2.1]
              refine gx_aload_n C dX9_next_82 rfl ?_
              refine gx_get C fd_X9_next_7 (hG := hM.2.1) (hv := by rfl) dX9_next_83 ?_
              refine gx_iload C dX9_next_86 rfl ?_
              refine gx_iconst (v := nI 1) C dX9_next_88 (by decide) ?_
              refine gx_iadd C dX9_next_89 ?_
              first | refine gx_top (nI_add _ _) ?_ | skip
              refine gx_ialdN C (hG := (by first | exact hM.2.2.1 | exact hM.2.2.2.1 | exact hM.2.2.2.2.1 | exact hM.2.2.2.2.2.1 | exact hM.2.2.2.2.2.2)) (hk := by omega) (hn := by omega) dX9_next_90 ?_
              rw [lb.1.2.1]
              refine gx_icmp_ge (tgt := 98) C dX9_next_91 (by decide) (fun c_91 => ?_) (fun c_91 => ?_)
              · refine gx_iconst (v := 0) C dX9_next_98 (by decide) ?_
                refine gx_istore C dX9_next_99 (by decide) ?_
                refine gx_aload_n C dX9_next_101 rfl ?_
                refine gx_get C fd_X9_next_7 (hG := hM.2.1) (hv := by rfl) dX9_next_102 ?_
                refine gx_iload_n C dX9_next_105 rfl ?_
                refine gx_iconst (v := nI 4) C dX9_next_106 (by decide) ?_
                refine gx_iadd C dX9_next_107 ?_
                first | refine gx_top (nI_add _ _) ?_ | skip
                refine gx_ialdN C (hG := (by first | exact hM.2.2.1 | exact hM.2.2.2.1 | exact hM.2.2.2.2.1 | exact hM.2.2.2.2.2.1 | exact hM.2.2.2.2.2.2)) (hk := by omega) (hn := by omega) dX9_next_108 ?_
                rw [lj.2.2.1]
                refine gx_if_ne (tgt := 125) C dX9_next_109 (by decide) (fun c_109 => ?_) (fun c_109 => ?_)
                · refine gx_iload_n C dX9_next_125 rfl ?_
                  refine gx_istore_n C dX9_next_126 (by decide) ?_
                  first | refine gx_iincN C dX9_next_127 rfl (by decide) ?_ | refine gx_iinc1 C dX9_next_127 rfl (by decide) ?_
                  refine gx_goto (tgt := 5) C dX9_next_130 (by decide) ?_
                  first
                  | exact absurd rfl c_118
                  | exact absurd c_118 (by decide)
                  | (rw [if_neg c_109] at hs9; exact gx_nx hs9.symm (ih (j + 1) _ _ _ (by omega) (by omega)))
                  | (rw [if_pos c_109, if_pos (Or.inl c_113)] at hs9; exact gx_nx hs9.symm (ih (j + 1) _ _ _ (by omega) (by omega)))
                  | exact absurd hB0 c_113
                  | (rw [if_pos c_109, if_pos (Or.inr (pMore_1 (by omega) (by omega) c_51))] at hs9; exact gx_nx hs9.symm (ih (j + 1) _ _ _ (by omega) (by omega)))
                  | (rw [if_pos c_109, if_pos (Or.inr (pMore_2 (by omega) (by omega) c_71 (Int32.not_le.mp c_91)))] at hs9; exact gx_nx hs9.symm (ih (j + 1) _ _ _ (by omega) (by omega)))
                  | (have n3 := pMore_3 (cs := t.1.2.2.2.1.1) (ns := t.1.2.2.2.1.2.2.1) (j := j) (b := b) (by omega) (by omega) c_51 c_71; rw [if_pos c_109, if_neg (fun q => q.elim c_113 n3)] at hs9; exact gx_nx hs9.symm (ih (j + 1) _ _ _ (by omega) (by omega)))
                  | (have n3 := pMore_4 (cs := t.1.2.2.2.1.1) (ns := t.1.2.2.2.1.2.2.1) (j := j) (b := b) (by omega) (by omega) c_71 (Int32.not_lt.mpr c_91); rw [if_pos c_109, if_neg (fun q => q.elim c_113 n3)] at hs9; exact gx_nx hs9.symm (ih (j + 1) _ _ _ (by omega) (by omega)))
                · refine gx_iload_n C dX9_next_112 rfl ?_
                  refine gx_if_lt (tgt := 121) C dX9_next_113 (by decide) (fun c_113 => ?_) (fun c_113 => ?_)
                  · refine gx_iload_n C dX9_next_121 rfl ?_
                    refine gx_goto (tgt := 126) C dX9_next_122 (by decide) ?_
                    refine gx_istore_n C dX9_next_126 (by decide) ?_
                    first | refine gx_iincN C dX9_next_127 rfl (by decide) ?_ | refine gx_iinc1 C dX9_next_127 rfl (by decide) ?_
                    refine gx_goto (tgt := 5) C dX9_next_130 (by decide) ?_
                    first
                    | exact absurd rfl c_118
                    | exact absurd c_118 (by decide)
                    | (rw [if_neg c_109] at hs9; exact gx_nx hs9.symm (ih (j + 1) _ _ _ (by omega) (by omega)))
                    | (rw [if_pos c_109, if_pos (Or.inl c_113)] at hs9; exact gx_nx hs9.symm (ih (j + 1) _ _ _ (by omega) (by omega)))
                    | exact absurd hB0 c_113
                    | (rw [if_pos c_109, if_pos (Or.inr (pMore_1 (by omega) (by omega) c_51))] at hs9; exact gx_nx hs9.symm (ih (j + 1) _ _ _ (by omega) (by omega)))
                    | (rw [if_pos c_109, if_pos (Or.inr (pMore_2 (by omega) (by omega) c_71 (Int32.not_le.mp c_91)))] at hs9; exact gx_nx hs9.symm (ih (j + 1) _ _ _ (by omega) (by omega)))
                    | (have n3 := pMore_3 (cs := t.1.2.2.2.1.1) (ns := t.1.2.2.2.1.2.2.1) (j := j) (b := b) (by omega) (by omega) c_51 c_71; rw [if_pos c_109, if_neg (fun q => q.elim c_113 n3)] at hs9; exact gx_nx hs9.symm (ih (j + 1) _ _ _ (by omega) (by omega)))
                    | (have n3 := pMore_4 (cs := t.1.2.2.2.1.1) (ns := t.1.2.2.2.1.2.2.1) (j := j) (b := b) (by omega) (by omega) c_71 (Int32.not_lt.mpr c_91); rw [if_pos c_109, if_neg (fun q => q.elim c_113 n3)] at hs9; exact gx_nx hs9.symm (ih (j + 1) _ _ _ (by omega) (by omega)))
                  · refine gx_iload C dX9_next_116 rfl ?_
                    refine gx_if_eq (tgt := 125) C dX9_next_118 (by decide) (fun c_118 => ?_) (fun c_118 => ?_)
                    · refine gx_iload_n C dX9_next_125 rfl ?_
                      refine gx_istore_n C dX9_next_126 (by decide) ?_
                      first | refine gx_iincN C dX9_next_127 rfl (by decide) ?_ | refine gx_iinc1 C dX9_next_127 rfl (by decide) ?_
                      refine gx_goto (tgt := 5) C dX9_next_130 (by decide) ?_
                      first
                      | exact absurd rfl c_118
                      | exact absurd c_118 (by decide)
                      | (rw [if_neg c_109] at hs9; exact gx_nx hs9.symm (ih (j + 1) _ _ _ (by omega) (by omega)))
                      | (rw [if_pos c_109, if_pos (Or.inl c_113)] at hs9; exact gx_nx hs9.symm (ih (j + 1) _ _ _ (by omega) (by omega)))
                      | exact absurd hB0 c_113
                      | (rw [if_pos c_109, if_pos (Or.inr (pMore_1 (by omega) (by omega) c_51))] at hs9; exact gx_nx hs9.symm (ih (j + 1) _ _ _ (by omega) (by omega)))
                      | (rw [if_pos c_109, if_pos (Or.inr (pMore_2 (by omega) (by omega) c_71 (Int32.not_le.mp c_91)))] at hs9; exact gx_nx hs9.symm (ih (j + 1) _ _ _ (by omega) (by omega)))
                      | (have n3 := pMore_3 (cs := t.1.2.2.2.1.1) (ns := t.1.2.2.2.1.2.2.1) (j := j) (b := b) (by omega) (by omega) c_51 c_71; rw [if_pos c_109, if_neg (fun q => q.elim c_113 n3)] at hs9; exact gx_nx hs9.symm (ih (j + 1) _ _ _ (by omega) (by omega)))
                      | (have n3 := pMore_4 (cs := t.1.2.2.2.1.1) (ns := t.1.2.2.2.1.2.2.1) (j := j) (b := b) (by omega) (by omega) c_71 (Int32.not_lt.mpr c_91); rw [if_pos c_109, if_neg (fun q => q.elim c_113 n3)] at hs9; exact gx_nx hs9.symm (ih (j + 1) _ _ _ (by omega) (by omega)))
                    · refine gx_iload_n C dX9_next_121 rfl ?_
                      refine gx_goto (tgt := 126) C dX9_next_122 (by decide) ?_
                      refine gx_istore_n C dX9_next_126 (by decide) ?_
                      first | refine gx_iincN C dX9_next_127 rfl (by decide) ?_ | refine gx_iinc1 C dX9_next_127 rfl (by decide) ?_
                      refine gx_goto (tgt := 5) C dX9_next_130 (by decide) ?_
                      first
                      | exact absurd rfl c_118
                      | exact absurd c_118 (by decide)
                      | (rw [if_neg c_109] at hs9; exact gx_nx hs9.symm (ih (j + 1) _ _ _ (by omega) (by omega)))
                      | (rw [if_pos c_109, if_pos (Or.inl c_113)] at hs9; exact gx_nx hs9.symm (ih (j + 1) _ _ _ (by omega) (by omega)))
                      | exact absurd hB0 c_113
                      | (rw [if_pos c_109, if_pos (Or.inr (pMore_1 (by omega) (by omega) c_51))] at hs9; exact gx_nx hs9.symm (ih (j + 1) _ _ _ (by omega) (by omega)))
                      | (rw [if_pos c_109, if_pos (Or.inr (pMore_2 (by omega) (by omega) c_71 (Int32.not_le.mp c_91)))] at hs9; exact gx_nx hs9.symm (ih (j + 1) _ _ _ (by omega) (by omega)))
                      | (have n3 := pMore_3 (cs := t.1.2.2.2.1.1) (ns := t.1.2.2.2.1.2.2.1) (j := j) (b := b) (by omega) (by omega) c_51 c_71; rw [if_pos c_109, if_neg (fun q => q.elim c_113 n3)] at hs9; exact gx_nx hs9.symm (ih (j + 1) _ _ _ (by omega) (by omega)))
                      | (have n3 := pMore_4 (cs := t.1.2.2.2.1.1) (ns := t.1.2.2.2.1.2.2.1) (j := j) (b := b) (by omega) (by omega) c_71 (Int32.not_lt.mpr c_91); rw [if_pos c_109, if_neg (fun q => q.elim c_113 n3)] at hs9; exact gx_nx hs9.symm (ih (j + 1) _ _ _ (by omega) (by omega)))
              · 
                refine gx_iconst (v := 1) C dX9_next_94 (by decide) ?_
                refine gx_goto (tgt := 99) C dX9_next_95 (by decide) ?_
                refine gx_istore C dX9_next_99 (by decide) ?_
                refine gx_aload_n C dX9_next_101 rfl ?_
                refine gx_get C fd_X9_next_7 (hG := hM.2.1) (hv := by rfl) dX9_next_102 ?_
                refine gx_iload_n C dX9_next_105 rfl ?_
                refine gx_iconst (v := nI 4) C dX9_next_106 (by decide) ?_
                refine gx_iadd C dX9_next_107 ?_
                first | refine gx_top (nI_add _ _) ?_ | skip
                refine gx_ialdN C (hG := (by first | exact hM.2.2.1 | exact hM.2.2.2.1 | exact hM.2.2.2.2.1 | exact hM.2.2.2.2.2.1 | exact hM.2.2.2.2.2.2)) (hk := by omega) (hn := by omega) dX9_next_108 ?_
                rw [lj.2.2.1]
                refine gx_if_ne (tgt := 125) C dX9_next_109 (by decide) (fun c_109 => ?_) (fun c_109 => ?_)
                · refine gx_iload_n C dX9_next_125 rfl ?_
                  refine gx_istore_n C dX9_next_126 (by decide) ?_
                  first | refine gx_iincN C dX9_next_127 rfl (by decide) ?_ | refine gx_iinc1 C dX9_next_127 rfl (by decide) ?_
                  refine gx_goto (tgt := 5) C dX9_next_130 (by decide) ?_
                  first
                  | exact absurd rfl c_118
                  | exact absurd c_118 (by decide)
                  | (rw [if_neg c_109] at hs9; exact gx_nx hs9.symm (ih (j + 1) _ _ _ (by omega) (by omega)))
                  | (rw [if_pos c_109, if_pos (Or.inl c_113)] at hs9; exact gx_nx hs9.symm (ih (j + 1) _ _ _ (by omega) (by omega)))
                  | exact absurd hB0 c_113
                  | (rw [if_pos c_109, if_pos (Or.inr (pMore_1 (by omega) (by omega) c_51))] at hs9; exact gx_nx hs9.symm (ih (j + 1) _ _ _ (by omega) (by omega)))
                  | (rw [if_pos c_109, if_pos (Or.inr (pMore_2 (by omega) (by omega) c_71 (Int32.not_le.mp c_91)))] at hs9; exact gx_nx hs9.symm (ih (j + 1) _ _ _ (by omega) (by omega)))
                  | (have n3 := pMore_3 (cs := t.1.2.2.2.1.1) (ns := t.1.2.2.2.1.2.2.1) (j := j) (b := b) (by omega) (by omega) c_51 c_71; rw [if_pos c_109, if_neg (fun q => q.elim c_113 n3)] at hs9; exact gx_nx hs9.symm (ih (j + 1) _ _ _ (by omega) (by omega)))
                  | (have n3 := pMore_4 (cs := t.1.2.2.2.1.1) (ns := t.1.2.2.2.1.2.2.1) (j := j) (b := b) (by omega) (by omega) c_71 (Int32.not_lt.mpr c_91); rw [if_pos c_109, if_neg (fun q => q.elim c_113 n3)] at hs9; exact gx_nx hs9.symm (ih (j + 1) _ _ _ (by omega) (by omega)))
                · refine gx_iload_n C dX9_next_112 rfl ?_
                  refine gx_if_lt (tgt := 121) C dX9_next_113 (by decide) (fun c_113 => ?_) (fun c_113 => ?_)
                  · refine gx_iload_n C dX9_next_121 rfl ?_
                    refine gx_goto (tgt := 126) C dX9_next_122 (by decide) ?_
                    refine gx_istore_n C dX9_next_126 (by decide) ?_
                    first | refine gx_iincN C dX9_next_127 rfl (by decide) ?_ | refine gx_iinc1 C dX9_next_127 rfl (by decide) ?_
                    refine gx_goto (tgt := 5) C dX9_next_130 (by decide) ?_
                    first
                    | exact absurd rfl c_118
                    | exact absurd c_118 (by decide)
                    | (rw [if_neg c_109] at hs9; exact gx_nx hs9.symm (ih (j + 1) _ _ _ (by omega) (by omega)))
                    | (rw [if_pos c_109, if_pos (Or.inl c_113)] at hs9; exact gx_nx hs9.symm (ih (j + 1) _ _ _ (by omega) (by omega)))
                    | exact absurd hB0 c_113
                    | (rw [if_pos c_109, if_pos (Or.inr (pMore_1 (by omega) (by omega) c_51))] at hs9; exact gx_nx hs9.symm (ih (j + 1) _ _ _ (by omega) (by omega)))
                    | (rw [if_pos c_109, if_pos (Or.inr (pMore_2 (by omega) (by omega) c_71 (Int32.not_le.mp c_91)))] at hs9; exact gx_nx hs9.symm (ih (j + 1) _ _ _ (by omega) (by omega)))
                    | (have n3 := pMore_3 (cs := t.1.2.2.2.1.1) (ns := t.1.2.2.2.1.2.2.1) (j := j) (b := b) (by omega) (by omega) c_51 c_71; rw [if_pos c_109, if_neg (fun q => q.elim c_113 n3)] at hs9; exact gx_nx hs9.symm (ih (j + 1) _ _ _ (by omega) (by omega)))
                    | (have n3 := pMore_4 (cs := t.1.2.2.2.1.1) (ns := t.1.2.2.2.1.2.2.1) (j := j) (b := b) (by omega) (by omega) c_71 (Int32.not_lt.mpr c_91); rw [if_pos c_109, if_neg (fun q => q.elim c_113 n3)] at hs9; exact gx_nx hs9.symm (ih (j + 1) _ _ _ (by omega) (by omega)))
                  · refine gx_iload C dX9_next_116 rfl ?_
                    refine gx_if_eq (tgt := 125) C dX9_next_118 (by decide) (fun c_118 => ?_) (fun c_118 => ?_)
                    · refine gx_iload_n C dX9_next_125 rfl ?_
                      refine gx_istore_n C dX9_next_126 (by decide) ?_
                      first | refine gx_iincN C dX9_next_127 rfl (by decide) ?_ | refine gx_iinc1 C dX9_next_127 rfl (by decide) ?_
                      refine gx_goto (tgt := 5) C dX9_next_130 (by decide) ?_
                      first
                      | exact absurd rfl c_118
                      | exact absurd c_118 (by decide)
                      | (rw [if_neg c_109] at hs9; exact gx_nx hs9.symm (ih (j + 1) _ _ _ (by omega) (by omega)))
                      | (rw [if_pos c_109, if_pos (Or.inl c_113)] at hs9; exact gx_nx hs9.symm (ih (j + 1) _ _ _ (by omega) (by omega)))
                      | exact absurd hB0 c_113
                      | (rw [if_pos c_109, if_pos (Or.inr (pMore_1 (by omega) (by omega) c_51))] at hs9; exact gx_nx hs9.symm (ih (j + 1) _ _ _ (by omega) (by omega)))
                      | (rw [if_pos c_109, if_pos (Or.inr (pMore_2 (by omega) (by omega) c_71 (Int32.not_le.mp c_91)))] at hs9; exact gx_nx hs9.symm (ih (j + 1) _ _ _ (by omega) (by omega)))
                      | (have n3 := pMore_3 (cs := t.1.2.2.2.1.1) (ns := t.1.2.2.2.1.2.2.1) (j := j) (b := b) (by omega) (by omega) c_51 c_71; rw [if_pos c_109, if_neg (fun q => q.elim c_113 n3)] at hs9; exact gx_nx hs9.symm (ih (j + 1) _ _ _ (by omega) (by omega)))
                      | (have n3 := pMore_4 (cs := t.1.2.2.2.1.1) (ns := t.1.2.2.2.1.2.2.1) (j := j) (b := b) (by omega) (by omega) c_71 (Int32.not_lt.mpr c_91); rw [if_pos c_109, if_neg (fun q => q.elim c_113 n3)] at hs9; exact gx_nx hs9.symm (ih (j + 1) _ _ _ (by omega) (by omega)))
                    · refine gx_iload_n C dX9_next_121 rfl ?_
                      refine gx_goto (tgt := 126) C dX9_next_122 (by decide) ?_
                      refine gx_istore_n C dX9_next_126 (by decide) ?_
                      first | refine gx_iincN C dX9_next_127 rfl (by decide) ?_ | refine gx_iinc1 C dX9_next_127 rfl (by decide) ?_
                      refine gx_goto (tgt := 5) C dX9_next_130 (by decide) ?_
                      first
                      | exact absurd rfl c_118
                      | exact absurd c_118 (by decide)
                      | (rw [if_neg c_109] at hs9; exact gx_nx hs9.symm (ih (j + 1) _ _ _ (by omega) (by omega)))
                      | (rw [if_pos c_109, if_pos (Or.inl c_113)] at hs9; exact gx_nx hs9.symm (ih (j + 1) _ _ _ (by omega) (by omega)))
                      | exact absurd hB0 c_113
                      | (rw [if_pos c_109, if_pos (Or.inr (pMore_1 (by omega) (by omega) c_51))] at hs9; exact gx_nx hs9.symm (ih (j + 1) _ _ _ (by omega) (by omega)))
                      | (rw [if_pos c_109, if_pos (Or.inr (pMore_2 (by omega) (by omega) c_71 (Int32.not_le.mp c_91)))] at hs9; exact gx_nx hs9.symm (ih (j + 1) _ _ _ (by omega) (by omega)))
                      | (have n3 := pMore_3 (cs := t.1.2.2.2.1.1) (ns := t.1.2.2.2.1.2.2.1) (j := j) (b := b) (by omega) (by omega) c_51 c_71; rw [if_pos c_109, if_neg (fun q => q.elim c_113 n3)] at hs9; exact gx_nx hs9.symm (ih (j + 1) _ _ _ (by omega) (by omega)))
                      | (have n3 := pMore_4 (cs := t.1.2.2.2.1.1) (ns := t.1.2.2.2.1.2.2.1) (j := j) (b := b) (by omega) (by omega) c_71 (Int32.not_lt.mpr c_91); rw [if_pos c_109, if_neg (fun q => q.elim c_113 n3)] at hs9; exact gx_nx hs9.symm (ih (j + 1) _ _ _ (by omega) (by omega)))
        · have lb := lj
          have hB0 : B < 0 := Int32.not_le.mp c_21
          refine gx_iload_n C dX9_next_24 rfl ?_
          refine gx_goto (tgt := 29) C dX9_next_25 (by decide) ?_
          refine gx_callS C (k9_listed l D A hs _) cb_X9_next__X9_listed gX9_next_X9_listed rfl rfl (Nat.le_of_ble_eq_true rfl) ⟨Nat.le_refl _, Nat.le_refl _⟩ dX9_next_29 (gx_ki fun r_29 G_29 h_29 => ?_)
          obtain ⟨rfl, rfl⟩ := h_29
          refine gx_istore C dX9_next_32 (by decide) ?_
          refine gx_aload_n C dX9_next_34 rfl ?_
          refine gx_get C fd_X9_next_7 (hG := hM.2.1) (hv := by rfl) dX9_next_35 ?_
          refine gx_iload_n C dX9_next_38 rfl ?_
          refine gx_iconst (v := nI 5) C dX9_next_39 (by decide) ?_
          refine gx_iadd C dX9_next_40 ?_
          first | refine gx_top (nI_add _ _) ?_ | skip
          refine gx_ialdN C (hG := (by first | exact hM.2.2.1 | exact hM.2.2.2.1 | exact hM.2.2.2.2.1 | exact hM.2.2.2.2.2.1 | exact hM.2.2.2.2.2.2)) (hk := by omega) (hn := by omega) dX9_next_41 ?_
          rw [lj.2.2.2.2.1]
          refine gx_aload_n C dX9_next_42 rfl ?_
          refine gx_get C fd_X9_next_7 (hG := hM.2.1) (hv := by rfl) dX9_next_43 ?_
          refine gx_iload C dX9_next_46 rfl ?_
          refine gx_iconst (v := nI 5) C dX9_next_48 (by decide) ?_
          refine gx_iadd C dX9_next_49 ?_
          first | refine gx_top (nI_add _ _) ?_ | skip
          refine gx_ialdN C (hG := (by first | exact hM.2.2.1 | exact hM.2.2.2.1 | exact hM.2.2.2.2.1 | exact hM.2.2.2.2.2.1 | exact hM.2.2.2.2.2.2)) (hk := by omega) (hn := by omega) dX9_next_50 ?_
          rw [lb.2.2.2.2.1]
          refine gx_icmp_gt (tgt := 94) C dX9_next_51 (by decide) (fun c_51 => ?_) (fun c_51 => ?_)
          · 
            refine gx_iconst (v := 1) C dX9_next_94 (by decide) ?_
            refine gx_goto (tgt := 99) C dX9_next_95 (by decide) ?_
            refine gx_istore C dX9_next_99 (by decide) ?_
            refine gx_aload_n C dX9_next_101 rfl ?_
            refine gx_get C fd_X9_next_7 (hG := hM.2.1) (hv := by rfl) dX9_next_102 ?_
            refine gx_iload_n C dX9_next_105 rfl ?_
            refine gx_iconst (v := nI 4) C dX9_next_106 (by decide) ?_
            refine gx_iadd C dX9_next_107 ?_
            first | refine gx_top (nI_add _ _) ?_ | skip
            refine gx_ialdN C (hG := (by first | exact hM.2.2.1 | exact hM.2.2.2.1 | exact hM.2.2.2.2.1 | exact hM.2.2.2.2.2.1 | exact hM.2.2.2.2.2.2)) (hk := by omega) (hn := by omega) dX9_next_108 ?_
            rw [lj.2.2.1]
            refine gx_if_ne (tgt := 125) C dX9_next_109 (by decide) (fun c_109 => ?_) (fun c_109 => ?_)
            · refine gx_iload_n C dX9_next_125 rfl ?_
              refine gx_istore_n C dX9_next_126 (by decide) ?_
              first | refine gx_iincN C dX9_next_127 rfl (by decide) ?_ | refine gx_iinc1 C dX9_next_127 rfl (by decide) ?_
              refine gx_goto (tgt := 5) C dX9_next_130 (by decide) ?_
              first
              | exact absurd rfl c_118
              | exact absurd c_118 (by decide)
              | (rw [if_neg c_109] at hs9; exact gx_nx hs9.symm (ih (j + 1) _ _ _ (by omega) (by omega)))
              | (rw [if_pos c_109, if_pos (Or.inl c_113)] at hs9; exact gx_nx hs9.symm (ih (j + 1) _ _ _ (by omega) (by omega)))
              | exact absurd hB0 c_113
              | (rw [if_pos c_109, if_pos (Or.inr (pMore_1 (by omega) (by omega) c_51))] at hs9; exact gx_nx hs9.symm (ih (j + 1) _ _ _ (by omega) (by omega)))
              | (rw [if_pos c_109, if_pos (Or.inr (pMore_2 (by omega) (by omega) c_71 (Int32.not_le.mp c_91)))] at hs9; exact gx_nx hs9.symm (ih (j + 1) _ _ _ (by omega) (by omega)))
              | (have n3 := pMore_3 (cs := t.1.2.2.2.1.1) (ns := t.1.2.2.2.1.2.2.1) (j := j) (b := b) (by omega) (by omega) c_51 c_71; rw [if_pos c_109, if_neg (fun q => q.elim c_113 n3)] at hs9; exact gx_nx hs9.symm (ih (j + 1) _ _ _ (by omega) (by omega)))
              | (have n3 := pMore_4 (cs := t.1.2.2.2.1.1) (ns := t.1.2.2.2.1.2.2.1) (j := j) (b := b) (by omega) (by omega) c_71 (Int32.not_lt.mpr c_91); rw [if_pos c_109, if_neg (fun q => q.elim c_113 n3)] at hs9; exact gx_nx hs9.symm (ih (j + 1) _ _ _ (by omega) (by omega)))
            · refine gx_iload_n C dX9_next_112 rfl ?_
              refine gx_if_lt (tgt := 121) C dX9_next_113 (by decide) (fun c_113 => ?_) (fun c_113 => ?_)
              · refine gx_iload_n C dX9_next_121 rfl ?_
                refine gx_goto (tgt := 126) C dX9_next_122 (by decide) ?_
                refine gx_istore_n C dX9_next_126 (by decide) ?_
                first | refine gx_iincN C dX9_next_127 rfl (by decide) ?_ | refine gx_iinc1 C dX9_next_127 rfl (by decide) ?_
                refine gx_goto (tgt := 5) C dX9_next_130 (by decide) ?_
                first
                | exact absurd rfl c_118
                | exact absurd c_118 (by decide)
                | (rw [if_neg c_109] at hs9; exact gx_nx hs9.symm (ih (j + 1) _ _ _ (by omega) (by omega)))
                | (rw [if_pos c_109, if_pos (Or.inl c_113)] at hs9; exact gx_nx hs9.symm (ih (j + 1) _ _ _ (by omega) (by omega)))
                | exact absurd hB0 c_113
                | (rw [if_pos c_109, if_pos (Or.inr (pMore_1 (by omega) (by omega) c_51))] at hs9; exact gx_nx hs9.symm (ih (j + 1) _ _ _ (by omega) (by omega)))
                | (rw [if_pos c_109, if_pos (Or.inr (pMore_2 (by omega) (by omega) c_71 (Int32.not_le.mp c_91)))] at hs9; exact gx_nx hs9.symm (ih (j + 1) _ _ _ (by omega) (by omega)))
                | (have n3 := pMore_3 (cs := t.1.2.2.2.1.1) (ns := t.1.2.2.2.1.2.2.1) (j := j) (b := b) (by omega) (by omega) c_51 c_71; rw [if_pos c_109, if_neg (fun q => q.elim c_113 n3)] at hs9; exact gx_nx hs9.symm (ih (j + 1) _ _ _ (by omega) (by omega)))
                | (have n3 := pMore_4 (cs := t.1.2.2.2.1.1) (ns := t.1.2.2.2.1.2.2.1) (j := j) (b := b) (by omega) (by omega) c_71 (Int32.not_lt.mpr c_91); rw [if_pos c_109, if_neg (fun q => q.elim c_113 n3)] at hs9; exact gx_nx hs9.symm (ih (j + 1) _ _ _ (by omega) (by omega)))
              · refine gx_iload C dX9_next_116 rfl ?_
                refine gx_if_eq (tgt := 125) C dX9_next_118 (by decide) (fun c_118 => ?_) (fun c_118 => ?_)
                · refine gx_iload_n C dX9_next_125 rfl ?_
                  refine gx_istore_n C dX9_next_126 (by decide) ?_
                  first | refine gx_iincN C dX9_next_127 rfl (by decide) ?_ | refine gx_iinc1 C dX9_next_127 rfl (by decide) ?_
                  refine gx_goto (tgt := 5) C dX9_next_130 (by decide) ?_
                  first
                  | exact absurd rfl c_118
                  | exact absurd c_118 (by decide)
                  | (rw [if_neg c_109] at hs9; exact gx_nx hs9.symm (ih (j + 1) _ _ _ (by omega) (by omega)))
                  | (rw [if_pos c_109, if_pos (Or.inl c_113)] at hs9; exact gx_nx hs9.symm (ih (j + 1) _ _ _ (by omega) (by omega)))
                  | exact absurd hB0 c_113
                  | (rw [if_pos c_109, if_pos (Or.inr (pMore_1 (by omega) (by omega) c_51))] at hs9; exact gx_nx hs9.symm (ih (j + 1) _ _ _ (by omega) (by omega)))
                  | (rw [if_pos c_109, if_pos (Or.inr (pMore_2 (by omega) (by omega) c_71 (Int32.not_le.mp c_91)))] at hs9; exact gx_nx hs9.symm (ih (j + 1) _ _ _ (by omega) (by omega)))
                  | (have n3 := pMore_3 (cs := t.1.2.2.2.1.1) (ns := t.1.2.2.2.1.2.2.1) (j := j) (b := b) (by omega) (by omega) c_51 c_71; rw [if_pos c_109, if_neg (fun q => q.elim c_113 n3)] at hs9; exact gx_nx hs9.symm (ih (j + 1) _ _ _ (by omega) (by omega)))
                  | (have n3 := pMore_4 (cs := t.1.2.2.2.1.1) (ns := t.1.2.2.2.1.2.2.1) (j := j) (b := b) (by omega) (by omega) c_71 (Int32.not_lt.mpr c_91); rw [if_pos c_109, if_neg (fun q => q.elim c_113 n3)] at hs9; exact gx_nx hs9.symm (ih (j + 1) _ _ _ (by omega) (by omega)))
                · refine gx_iload_n C dX9_next_121 rfl ?_
                  refine gx_goto (tgt := 126) C dX9_next_122 (by decide) ?_
                  refine gx_istore_n C dX9_next_126 (by decide) ?_
                  first | refine gx_iincN C dX9_next_127 rfl (by decide) ?_ | refine gx_iinc1 C dX9_next_127 rfl (by decide) ?_
                  refine gx_goto (tgt := 5) C dX9_next_130 (by decide) ?_
                  first
                  | exact absurd rfl c_118
                  | exact absurd c_118 (by decide)
                  | (rw [if_neg c_109] at hs9; exact gx_nx hs9.symm (ih (j + 1) _ _ _ (by omega) (by omega)))
                  | (rw [if_pos c_109, if_pos (Or.inl c_113)] at hs9; exact gx_nx hs9.symm (ih (j + 1) _ _ _ (by omega) (by omega)))
                  | exact absurd hB0 c_113
                  | (rw [if_pos c_109, if_pos (Or.inr (pMore_1 (by omega) (by omega) c_51))] at hs9; exact gx_nx hs9.symm (ih (j + 1) _ _ _ (by omega) (by omega)))
                  | (rw [if_pos c_109, if_pos (Or.inr (pMore_2 (by omega) (by omega) c_71 (Int32.not_le.mp c_91)))] at hs9; exact gx_nx hs9.symm (ih (j + 1) _ _ _ (by omega) (by omega)))
                  | (have n3 := pMore_3 (cs := t.1.2.2.2.1.1) (ns := t.1.2.2.2.1.2.2.1) (j := j) (b := b) (by omega) (by omega) c_51 c_71; rw [if_pos c_109, if_neg (fun q => q.elim c_113 n3)] at hs9; exact gx_nx hs9.symm (ih (j + 1) _ _ _ (by omega) (by omega)))
                  | (have n3 := pMore_4 (cs := t.1.2.2.2.1.1) (ns := t.1.2.2.2.1.2.2.1) (j := j) (b := b) (by omega) (by omega) c_71 (Int32.not_lt.mpr c_91); rw [if_pos c_109, if_neg (fun q => q.elim c_113 n3)] at hs9; exact gx_nx hs9.symm (ih (j + 1) _ _ _ (by omega) (by omega)))
          · refine gx_aload_n C dX9_next_54 rfl ?_
            refine gx_get C fd_X9_next_7 (hG := hM.2.1) (hv := by rfl) dX9_next_55 ?_
            refine gx_iload_n C dX9_next_58 rfl ?_
            refine gx_iconst (v := nI 5) C dX9_next_59 (by decide) ?_
            refine gx_iadd C dX9_next_60 ?_
            first | refine gx_top (nI_add _ _) ?_ | skip
            refine gx_ialdN C (hG := (by first | exact hM.2.2.1 | exact hM.2.2.2.1 | exact hM.2.2.2.2.1 | exact hM.2.2.2.2.2.1 | exact hM.2.2.2.2.2.2)) (hk := by omega) (hn := by omega) dX9_next_61 ?_
            rw [lj.2.2.2.2.1]
            refine gx_aload_n C dX9_next_62 rfl ?_
            refine gx_get C fd_X9_next_7 (hG := hM.2.1) (hv := by rfl) dX9_next_63 ?_
            refine gx_iload C dX9_next_66 rfl ?_
            refine gx_iconst (v := nI 5) C dX9_next_68 (by decide) ?_
            refine gx_iadd C dX9_next_69 ?_
            first | refine gx_top (nI_add _ _) ?_ | skip
            refine gx_ialdN C (hG := (by first | exact hM.2.2.1 | exact hM.2.2.2.1 | exact hM.2.2.2.2.1 | exact hM.2.2.2.2.2.1 | exact hM.2.2.2.2.2.2)) (hk := by omega) (hn := by omega) dX9_next_70 ?_
            rw [lb.2.2.2.2.1]
            refine gx_icmp_ne (tgt := 98) C dX9_next_71 (by decide) (fun c_71 => ?_) (fun c_71 => ?_)
            · refine gx_iconst (v := 0) C dX9_next_98 (by decide) ?_
              refine gx_istore C dX9_next_99 (by decide) ?_
              refine gx_aload_n C dX9_next_101 rfl ?_
              refine gx_get C fd_X9_next_7 (hG := hM.2.1) (hv := by rfl) dX9_next_102 ?_
              refine gx_iload_n C dX9_next_105 rfl ?_
              refine gx_iconst (v := nI 4) C dX9_next_106 (by decide) ?_
              refine gx_iadd C dX9_next_107 ?_
              first | refine gx_top (nI_add _ _) ?_ | skip
              refine gx_ialdN C (hG := (by first | exact hM.2.2.1 | exact hM.2.2.2.1 | exact hM.2.2.2.2.1 | exact hM.2.2.2.2.2.1 | exact hM.2.2.2.2.2.2)) (hk := by omega) (hn := by omega) dX9_next_108 ?_
              rw [lj.2.2.1]
              refine gx_if_ne (tgt := 125) C dX9_next_109 (by decide) (fun c_109 => ?_) (fun c_109 => ?_)
              · refine gx_iload_n C dX9_next_125 rfl ?_
                refine gx_istore_n C dX9_next_126 (by decide) ?_
                first | refine gx_iincN C dX9_next_127 rfl (by decide) ?_ | refine gx_iinc1 C dX9_next_127 rfl (by decide) ?_
                refine gx_goto (tgt := 5) C dX9_next_130 (by decide) ?_
                first
                | exact absurd rfl c_118
                | exact absurd c_118 (by decide)
                | (rw [if_neg c_109] at hs9; exact gx_nx hs9.symm (ih (j + 1) _ _ _ (by omega) (by omega)))
                | (rw [if_pos c_109, if_pos (Or.inl c_113)] at hs9; exact gx_nx hs9.symm (ih (j + 1) _ _ _ (by omega) (by omega)))
                | exact absurd hB0 c_113
                | (rw [if_pos c_109, if_pos (Or.inr (pMore_1 (by omega) (by omega) c_51))] at hs9; exact gx_nx hs9.symm (ih (j + 1) _ _ _ (by omega) (by omega)))
                | (rw [if_pos c_109, if_pos (Or.inr (pMore_2 (by omega) (by omega) c_71 (Int32.not_le.mp c_91)))] at hs9; exact gx_nx hs9.symm (ih (j + 1) _ _ _ (by omega) (by omega)))
                | (have n3 := pMore_3 (cs := t.1.2.2.2.1.1) (ns := t.1.2.2.2.1.2.2.1) (j := j) (b := b) (by omega) (by omega) c_51 c_71; rw [if_pos c_109, if_neg (fun q => q.elim c_113 n3)] at hs9; exact gx_nx hs9.symm (ih (j + 1) _ _ _ (by omega) (by omega)))
                | (have n3 := pMore_4 (cs := t.1.2.2.2.1.1) (ns := t.1.2.2.2.1.2.2.1) (j := j) (b := b) (by omega) (by omega) c_71 (Int32.not_lt.mpr c_91); rw [if_pos c_109, if_neg (fun q => q.elim c_113 n3)] at hs9; exact gx_nx hs9.symm (ih (j + 1) _ _ _ (by omega) (by omega)))
              · refine gx_iload_n C dX9_next_112 rfl ?_
                refine gx_if_lt (tgt := 121) C dX9_next_113 (by decide) (fun c_113 => ?_) (fun c_113 => ?_)
                · refine gx_iload_n C dX9_next_121 rfl ?_
                  refine gx_goto (tgt := 126) C dX9_next_122 (by decide) ?_
                  refine gx_istore_n C dX9_next_126 (by decide) ?_
                  first | refine gx_iincN C dX9_next_127 rfl (by decide) ?_ | refine gx_iinc1 C dX9_next_127 rfl (by decide) ?_
                  refine gx_goto (tgt := 5) C dX9_next_130 (by decide) ?_
                  first
                  | exact absurd rfl c_118
                  | exact absurd c_118 (by decide)
                  | (rw [if_neg c_109] at hs9; exact gx_nx hs9.symm (ih (j + 1) _ _ _ (by omega) (by omega)))
                  | (rw [if_pos c_109, if_pos (Or.inl c_113)] at hs9; exact gx_nx hs9.symm (ih (j + 1) _ _ _ (by omega) (by omega)))
                  | exact absurd hB0 c_113
                  | (rw [if_pos c_109, if_pos (Or.inr (pMore_1 (by omega) (by omega) c_51))] at hs9; exact gx_nx hs9.symm (ih (j + 1) _ _ _ (by omega) (by omega)))
                  | (rw [if_pos c_109, if_pos (Or.inr (pMore_2 (by omega) (by omega) c_71 (Int32.not_le.mp c_91)))] at hs9; exact gx_nx hs9.symm (ih (j + 1) _ _ _ (by omega) (by omega)))
                  | (have n3 := pMore_3 (cs := t.1.2.2.2.1.1) (ns := t.1.2.2.2.1.2.2.1) (j := j) (b := b) (by omega) (by omega) c_51 c_71; rw [if_pos c_109, if_neg (fun q => q.elim c_113 n3)] at hs9; exact gx_nx hs9.symm (ih (j + 1) _ _ _ (by omega) (by omega)))
                  | (have n3 := pMore_4 (cs := t.1.2.2.2.1.1) (ns := t.1.2.2.2.1.2.2.1) (j := j) (b := b) (by omega) (by omega) c_71 (Int32.not_lt.mpr c_91); rw [if_pos c_109, if_neg (fun q => q.elim c_113 n3)] at hs9; exact gx_nx hs9.symm (ih (j + 1) _ _ _ (by omega) (by omega)))
                · refine gx_iload C dX9_next_116 rfl ?_
                  refine gx_if_eq (tgt := 125) C dX9_next_118 (by decide) (fun c_118 => ?_) (fun c_118 => ?_)
                  · refine gx_iload_n C dX9_next_125 rfl ?_
                    refine gx_istore_n C dX9_next_126 (by decide) ?_
                    first | refine gx_iincN C dX9_next_127 rfl (by decide) ?_ | refine gx_iinc1 C dX9_next_127 rfl (by decide) ?_
                    refine gx_goto (tgt := 5) C dX9_next_130 (by decide) ?_
                    first
                    | exact absurd rfl c_118
                    | exact absurd c_118 (by decide)
                    | (rw [if_neg c_109] at hs9; exact gx_nx hs9.symm (ih (j + 1) _ _ _ (by omega) (by omega)))
                    | (rw [if_pos c_109, if_pos (Or.inl c_113)] at hs9; exact gx_nx hs9.symm (ih (j + 1) _ _ _ (by omega) (by omega)))
                    | exact absurd hB0 c_113
                    | (rw [if_pos c_109, if_pos (Or.inr (pMore_1 (by omega) (by omega) c_51))] at hs9; exact gx_nx hs9.symm (ih (j + 1) _ _ _ (by omega) (by omega)))
                    | (rw [if_pos c_109, if_pos (Or.inr (pMore_2 (by omega) (by omega) c_71 (Int32.not_le.mp c_91)))] at hs9; exact gx_nx hs9.symm (ih (j + 1) _ _ _ (by omega) (by omega)))
                    | (have n3 := pMore_3 (cs := t.1.2.2.2.1.1) (ns := t.1.2.2.2.1.2.2.1) (j := j) (b := b) (by omega) (by omega) c_51 c_71; rw [if_pos c_109, if_neg (fun q => q.elim c_113 n3)] at hs9; exact gx_nx hs9.symm (ih (j + 1) _ _ _ (by omega) (by omega)))
                    | (have n3 := pMore_4 (cs := t.1.2.2.2.1.1) (ns := t.1.2.2.2.1.2.2.1) (j := j) (b := b) (by omega) (by omega) c_71 (Int32.not_lt.mpr c_91); rw [if_pos c_109, if_neg (fun q => q.elim c_113 n3)] at hs9; exact gx_nx hs9.symm (ih (j + 1) _ _ _ (by omega) (by omega)))
                  · refine gx_iload_n C dX9_next_121 rfl ?_
                    refine gx_goto (tgt := 126) C dX9_next_122 (by decide) ?_
                    refine gx_istore_n C dX9_next_126 (by decide) ?_
                    first | refine gx_iincN C dX9_next_127 rfl (by decide) ?_ | refine gx_iinc1 C dX9_next_127 rfl (by decide) ?_
                    refine gx_goto (tgt := 5) C dX9_next_130 (by decide) ?_
                    first
                    | exact absurd rfl c_118
                    | exact absurd c_118 (by decide)
                    | (rw [if_neg c_109] at hs9; exact gx_nx hs9.symm (ih (j + 1) _ _ _ (by omega) (by omega)))
                    | (rw [if_pos c_109, if_pos (Or.inl c_113)] at hs9; exact gx_nx hs9.symm (ih (j + 1) _ _ _ (by omega) (by omega)))
                    | exact absurd hB0 c_113
                    | (rw [if_pos c_109, if_pos (Or.inr (pMore_1 (by omega) (by omega) c_51))] at hs9; exact gx_nx hs9.symm (ih (j + 1) _ _ _ (by omega) (by omega)))
                    | (rw [if_pos c_109, if_pos (Or.inr (pMore_2 (by omega) (by omega) c_71 (Int32.not_le.mp c_91)))] at hs9; exact gx_nx hs9.symm (ih (j + 1) _ _ _ (by omega) (by omega)))
                    | (have n3 := pMore_3 (cs := t.1.2.2.2.1.1) (ns := t.1.2.2.2.1.2.2.1) (j := j) (b := b) (by omega) (by omega) c_51 c_71; rw [if_pos c_109, if_neg (fun q => q.elim c_113 n3)] at hs9; exact gx_nx hs9.symm (ih (j + 1) _ _ _ (by omega) (by omega)))
                    | (have n3 := pMore_4 (cs := t.1.2.2.2.1.1) (ns := t.1.2.2.2.1.2.2.1) (j := j) (b := b) (by omega) (by omega) c_71 (Int32.not_lt.mpr c_91); rw [if_pos c_109, if_neg (fun q => q.elim c_113 n3)] at hs9; exact gx_nx hs9.symm (ih (j + 1) _ _ _ (by omega) (by omega)))
            · refine gx_aload_n C dX9_next_74 rfl ?_
              refine gx_get C fd_X9_next_7 (hG := hM.2.1) (hv := by rfl) dX9_next_75 ?_
              refine gx_iload_n C dX9_next_78 rfl ?_
              refine gx_iconst (v := nI 1) C dX9_next_79 (by decide) ?_
              refine gx_iadd C dX9_next_80 ?_
              first | refine gx_top (nI_add _ _) ?_ | skip
              refine gx_ialdN C (hG := (by first | exact hM.2.2.1 | exact hM.2.2.2.1 | exact hM.2.2.2.2.1 | exact hM.2.2.2.2.2.1 | exact hM.2.2.2.2.2.2)) (hk := by omega) (hn := by omega) dX9_next_81 ?_
              rw [lj.1.2.1]
              refine gx_aload_n C dX9_next_82 rfl ?_
              refine gx_get C fd_X9_next_7 (hG := hM.2.1) (hv := by rfl) dX9_next_83 ?_
              refine gx_iload C dX9_next_86 rfl ?_
              refine gx_iconst (v := nI 1) C dX9_next_88 (by decide) ?_
              refine gx_iadd C dX9_next_89 ?_
              first | refine gx_top (nI_add _ _) ?_ | skip
              refine gx_ialdN C (hG := (by first | exact hM.2.2.1 | exact hM.2.2.2.1 | exact hM.2.2.2.2.1 | exact hM.2.2.2.2.2.1 | exact hM.2.2.2.2.2.2)) (hk := by omega) (hn := by omega) dX9_next_90 ?_
              rw [lb.1.2.1]
              refine gx_icmp_ge (tgt := 98) C dX9_next_91 (by decide) (fun c_91 => ?_) (fun c_91 => ?_)
              · refine gx_iconst (v := 0) C dX9_next_98 (by decide) ?_
                refine gx_istore C dX9_next_99 (by decide) ?_
                refine gx_aload_n C dX9_next_101 rfl ?_
                refine gx_get C fd_X9_next_7 (hG := hM.2.1) (hv := by rfl) dX9_next_102 ?_
                refine gx_iload_n C dX9_next_105 rfl ?_
                refine gx_iconst (v := nI 4) C dX9_next_106 (by decide) ?_
                refine gx_iadd C dX9_next_107 ?_
                first | refine gx_top (nI_add _ _) ?_ | skip
                refine gx_ialdN C (hG := (by first | exact hM.2.2.1 | exact hM.2.2.2.1 | exact hM.2.2.2.2.1 | exact hM.2.2.2.2.2.1 | exact hM.2.2.2.2.2.2)) (hk := by omega) (hn := by omega) dX9_next_108 ?_
                rw [lj.2.2.1]
                refine gx_if_ne (tgt := 125) C dX9_next_109 (by decide) (fun c_109 => ?_) (fun c_109 => ?_)
                · refine gx_iload_n C dX9_next_125 rfl ?_
                  refine gx_istore_n C dX9_next_126 (by decide) ?_
                  first | refine gx_iincN C dX9_next_127 rfl (by decide) ?_ | refine gx_iinc1 C dX9_next_127 rfl (by decide) ?_
                  refine gx_goto (tgt := 5) C dX9_next_130 (by decide) ?_
                  first
                  | exact absurd rfl c_118
                  | exact absurd c_118 (by decide)
                  | (rw [if_neg c_109] at hs9; exact gx_nx hs9.symm (ih (j + 1) _ _ _ (by omega) (by omega)))
                  | (rw [if_pos c_109, if_pos (Or.inl c_113)] at hs9; exact gx_nx hs9.symm (ih (j + 1) _ _ _ (by omega) (by omega)))
                  | exact absurd hB0 c_113
                  | (rw [if_pos c_109, if_pos (Or.inr (pMore_1 (by omega) (by omega) c_51))] at hs9; exact gx_nx hs9.symm (ih (j + 1) _ _ _ (by omega) (by omega)))
                  | (rw [if_pos c_109, if_pos (Or.inr (pMore_2 (by omega) (by omega) c_71 (Int32.not_le.mp c_91)))] at hs9; exact gx_nx hs9.symm (ih (j + 1) _ _ _ (by omega) (by omega)))
                  | (have n3 := pMore_3 (cs := t.1.2.2.2.1.1) (ns := t.1.2.2.2.1.2.2.1) (j := j) (b := b) (by omega) (by omega) c_51 c_71; rw [if_pos c_109, if_neg (fun q => q.elim c_113 n3)] at hs9; exact gx_nx hs9.symm (ih (j + 1) _ _ _ (by omega) (by omega)))
                  | (have n3 := pMore_4 (cs := t.1.2.2.2.1.1) (ns := t.1.2.2.2.1.2.2.1) (j := j) (b := b) (by omega) (by omega) c_71 (Int32.not_lt.mpr c_91); rw [if_pos c_109, if_neg (fun q => q.elim c_113 n3)] at hs9; exact gx_nx hs9.symm (ih (j + 1) _ _ _ (by omega) (by omega)))
                · refine gx_iload_n C dX9_next_112 rfl ?_
                  refine gx_if_lt (tgt := 121) C dX9_next_113 (by decide) (fun c_113 => ?_) (fun c_113 => ?_)
                  · refine gx_iload_n C dX9_next_121 rfl ?_
                    refine gx_goto (tgt := 126) C dX9_next_122 (by decide) ?_
                    refine gx_istore_n C dX9_next_126 (by decide) ?_
                    first | refine gx_iincN C dX9_next_127 rfl (by decide) ?_ | refine gx_iinc1 C dX9_next_127 rfl (by decide) ?_
                    refine gx_goto (tgt := 5) C dX9_next_130 (by decide) ?_
                    first
                    | exact absurd rfl c_118
                    | exact absurd c_118 (by decide)
                    | (rw [if_neg c_109] at hs9; exact gx_nx hs9.symm (ih (j + 1) _ _ _ (by omega) (by omega)))
                    | (rw [if_pos c_109, if_pos (Or.inl c_113)] at hs9; exact gx_nx hs9.symm (ih (j + 1) _ _ _ (by omega) (by omega)))
                    | exact absurd hB0 c_113
                    | (rw [if_pos c_109, if_pos (Or.inr (pMore_1 (by omega) (by omega) c_51))] at hs9; exact gx_nx hs9.symm (ih (j + 1) _ _ _ (by omega) (by omega)))
                    | (rw [if_pos c_109, if_pos (Or.inr (pMore_2 (by omega) (by omega) c_71 (Int32.not_le.mp c_91)))] at hs9; exact gx_nx hs9.symm (ih (j + 1) _ _ _ (by omega) (by omega)))
                    | (have n3 := pMore_3 (cs := t.1.2.2.2.1.1) (ns := t.1.2.2.2.1.2.2.1) (j := j) (b := b) (by omega) (by omega) c_51 c_71; rw [if_pos c_109, if_neg (fun q => q.elim c_113 n3)] at hs9; exact gx_nx hs9.symm (ih (j + 1) _ _ _ (by omega) (by omega)))
                    | (have n3 := pMore_4 (cs := t.1.2.2.2.1.1) (ns := t.1.2.2.2.1.2.2.1) (j := j) (b := b) (by omega) (by omega) c_71 (Int32.not_lt.mpr c_91); rw [if_pos c_109, if_neg (fun q => q.elim c_113 n3)] at hs9; exact gx_nx hs9.symm (ih (j + 1) _ _ _ (by omega) (by omega)))
                  · refine gx_iload C dX9_next_116 rfl ?_
                    refine gx_if_eq (tgt := 125) C dX9_next_118 (by decide) (fun c_118 => ?_) (fun c_118 => ?_)
                    · refine gx_iload_n C dX9_next_125 rfl ?_
                      refine gx_istore_n C dX9_next_126 (by decide) ?_
                      first | refine gx_iincN C dX9_next_127 rfl (by decide) ?_ | refine gx_iinc1 C dX9_next_127 rfl (by decide) ?_
                      refine gx_goto (tgt := 5) C dX9_next_130 (by decide) ?_
                      first
                      | exact absurd rfl c_118
                      | exact absurd c_118 (by decide)
                      | (rw [if_neg c_109] at hs9; exact gx_nx hs9.symm (ih (j + 1) _ _ _ (by omega) (by omega)))
                      | (rw [if_pos c_109, if_pos (Or.inl c_113)] at hs9; exact gx_nx hs9.symm (ih (j + 1) _ _ _ (by omega) (by omega)))
                      | exact absurd hB0 c_113
                      | (rw [if_pos c_109, if_pos (Or.inr (pMore_1 (by omega) (by omega) c_51))] at hs9; exact gx_nx hs9.symm (ih (j + 1) _ _ _ (by omega) (by omega)))
                      | (rw [if_pos c_109, if_pos (Or.inr (pMore_2 (by omega) (by omega) c_71 (Int32.not_le.mp c_91)))] at hs9; exact gx_nx hs9.symm (ih (j + 1) _ _ _ (by omega) (by omega)))
                      | (have n3 := pMore_3 (cs := t.1.2.2.2.1.1) (ns := t.1.2.2.2.1.2.2.1) (j := j) (b := b) (by omega) (by omega) c_51 c_71; rw [if_pos c_109, if_neg (fun q => q.elim c_113 n3)] at hs9; exact gx_nx hs9.symm (ih (j + 1) _ _ _ (by omega) (by omega)))
                      | (have n3 := pMore_4 (cs := t.1.2.2.2.1.1) (ns := t.1.2.2.2.1.2.2.1) (j := j) (b := b) (by omega) (by omega) c_71 (Int32.not_lt.mpr c_91); rw [if_pos c_109, if_neg (fun q => q.elim c_113 n3)] at hs9; exact gx_nx hs9.symm (ih (j + 1) _ _ _ (by omega) (by omega)))
                    · refine gx_iload_n C dX9_next_121 rfl ?_
                      refine gx_goto (tgt := 126) C dX9_next_122 (by decide) ?_
                      refine gx_istore_n C dX9_next_126 (by decide) ?_
                      first | refine gx_iincN C dX9_next_127 rfl (by decide) ?_ | refine gx_iinc1 C dX9_next_127 rfl (by decide) ?_
                      refine gx_goto (tgt := 5) C dX9_next_130 (by decide) ?_
                      first
                      | exact absurd rfl c_118
                      | exact absurd c_118 (by decide)
                      | (rw [if_neg c_109] at hs9; exact gx_nx hs9.symm (ih (j + 1) _ _ _ (by omega) (by omega)))
                      | (rw [if_pos c_109, if_pos (Or.inl c_113)] at hs9; exact gx_nx hs9.symm (ih (j + 1) _ _ _ (by omega) (by omega)))
                      | exact absurd hB0 c_113
                      | (rw [if_pos c_109, if_pos (Or.inr (pMore_1 (by omega) (by omega) c_51))] at hs9; exact gx_nx hs9.symm (ih (j + 1) _ _ _ (by omega) (by omega)))
                      | (rw [if_pos c_109, if_pos (Or.inr (pMore_2 (by omega) (by omega) c_71 (Int32.not_le.mp c_91)))] at hs9; exact gx_nx hs9.symm (ih (j + 1) _ _ _ (by omega) (by omega)))
                      | (have n3 := pMore_3 (cs := t.1.2.2.2.1.1) (ns := t.1.2.2.2.1.2.2.1) (j := j) (b := b) (by omega) (by omega) c_51 c_71; rw [if_pos c_109, if_neg (fun q => q.elim c_113 n3)] at hs9; exact gx_nx hs9.symm (ih (j + 1) _ _ _ (by omega) (by omega)))
                      | (have n3 := pMore_4 (cs := t.1.2.2.2.1.1) (ns := t.1.2.2.2.1.2.2.1) (j := j) (b := b) (by omega) (by omega) c_71 (Int32.not_lt.mpr c_91); rw [if_pos c_109, if_neg (fun q => q.elim c_113 n3)] at hs9; exact gx_nx hs9.symm (ih (j + 1) _ _ _ (by omega) (by omega)))
              · 
                refine gx_iconst (v := 1) C dX9_next_94 (by decide) ?_
                refine gx_goto (tgt := 99) C dX9_next_95 (by decide) ?_
                refine gx_istore C dX9_next_99 (by decide) ?_
                refine gx_aload_n C dX9_next_101 rfl ?_
                refine gx_get C fd_X9_next_7 (hG := hM.2.1) (hv := by rfl) dX9_next_102 ?_
                refine gx_iload_n C dX9_next_105 rfl ?_
                refine gx_iconst (v := nI 4) C dX9_next_106 (by decide) ?_
                refine gx_iadd C dX9_next_107 ?_
                first | refine gx_top (nI_add _ _) ?_ | skip
                refine gx_ialdN C (hG := (by first | exact hM.2.2.1 | exact hM.2.2.2.1 | exact hM.2.2.2.2.1 | exact hM.2.2.2.2.2.1 | exact hM.2.2.2.2.2.2)) (hk := by omega) (hn := by omega) dX9_next_108 ?_
                rw [lj.2.2.1]
                refine gx_if_ne (tgt := 125) C dX9_next_109 (by decide) (fun c_109 => ?_) (fun c_109 => ?_)
                · refine gx_iload_n C dX9_next_125 rfl ?_
                  refine gx_istore_n C dX9_next_126 (by decide) ?_
                  first | refine gx_iincN C dX9_next_127 rfl (by decide) ?_ | refine gx_iinc1 C dX9_next_127 rfl (by decide) ?_
                  refine gx_goto (tgt := 5) C dX9_next_130 (by decide) ?_
                  first
                  | exact absurd rfl c_118
                  | exact absurd c_118 (by decide)
                  | (rw [if_neg c_109] at hs9; exact gx_nx hs9.symm (ih (j + 1) _ _ _ (by omega) (by omega)))
                  | (rw [if_pos c_109, if_pos (Or.inl c_113)] at hs9; exact gx_nx hs9.symm (ih (j + 1) _ _ _ (by omega) (by omega)))
                  | exact absurd hB0 c_113
                  | (rw [if_pos c_109, if_pos (Or.inr (pMore_1 (by omega) (by omega) c_51))] at hs9; exact gx_nx hs9.symm (ih (j + 1) _ _ _ (by omega) (by omega)))
                  | (rw [if_pos c_109, if_pos (Or.inr (pMore_2 (by omega) (by omega) c_71 (Int32.not_le.mp c_91)))] at hs9; exact gx_nx hs9.symm (ih (j + 1) _ _ _ (by omega) (by omega)))
                  | (have n3 := pMore_3 (cs := t.1.2.2.2.1.1) (ns := t.1.2.2.2.1.2.2.1) (j := j) (b := b) (by omega) (by omega) c_51 c_71; rw [if_pos c_109, if_neg (fun q => q.elim c_113 n3)] at hs9; exact gx_nx hs9.symm (ih (j + 1) _ _ _ (by omega) (by omega)))
                  | (have n3 := pMore_4 (cs := t.1.2.2.2.1.1) (ns := t.1.2.2.2.1.2.2.1) (j := j) (b := b) (by omega) (by omega) c_71 (Int32.not_lt.mpr c_91); rw [if_pos c_109, if_neg (fun q => q.elim c_113 n3)] at hs9; exact gx_nx hs9.symm (ih (j + 1) _ _ _ (by omega) (by omega)))
                · refine gx_iload_n C dX9_next_112 rfl ?_
                  refine gx_if_lt (tgt := 121) C dX9_next_113 (by decide) (fun c_113 => ?_) (fun c_113 => ?_)
                  · refine gx_iload_n C dX9_next_121 rfl ?_
                    refine gx_goto (tgt := 126) C dX9_next_122 (by decide) ?_
                    refine gx_istore_n C dX9_next_126 (by decide) ?_
                    first | refine gx_iincN C dX9_next_127 rfl (by decide) ?_ | refine gx_iinc1 C dX9_next_127 rfl (by decide) ?_
                    refine gx_goto (tgt := 5) C dX9_next_130 (by decide) ?_
                    first
                    | exact absurd rfl c_118
                    | exact absurd c_118 (by decide)
                    | (rw [if_neg c_109] at hs9; exact gx_nx hs9.symm (ih (j + 1) _ _ _ (by omega) (by omega)))
                    | (rw [if_pos c_109, if_pos (Or.inl c_113)] at hs9; exact gx_nx hs9.symm (ih (j + 1) _ _ _ (by omega) (by omega)))
                    | exact absurd hB0 c_113
                    | (rw [if_pos c_109, if_pos (Or.inr (pMore_1 (by omega) (by omega) c_51))] at hs9; exact gx_nx hs9.symm (ih (j + 1) _ _ _ (by omega) (by omega)))
                    | (rw [if_pos c_109, if_pos (Or.inr (pMore_2 (by omega) (by omega) c_71 (Int32.not_le.mp c_91)))] at hs9; exact gx_nx hs9.symm (ih (j + 1) _ _ _ (by omega) (by omega)))
                    | (have n3 := pMore_3 (cs := t.1.2.2.2.1.1) (ns := t.1.2.2.2.1.2.2.1) (j := j) (b := b) (by omega) (by omega) c_51 c_71; rw [if_pos c_109, if_neg (fun q => q.elim c_113 n3)] at hs9; exact gx_nx hs9.symm (ih (j + 1) _ _ _ (by omega) (by omega)))
                    | (have n3 := pMore_4 (cs := t.1.2.2.2.1.1) (ns := t.1.2.2.2.1.2.2.1) (j := j) (b := b) (by omega) (by omega) c_71 (Int32.not_lt.mpr c_91); rw [if_pos c_109, if_neg (fun q => q.elim c_113 n3)] at hs9; exact gx_nx hs9.symm (ih (j + 1) _ _ _ (by omega) (by omega)))
                  · refine gx_iload C dX9_next_116 rfl ?_
                    refine gx_if_eq (tgt := 125) C dX9_next_118 (by decide) (fun c_118 => ?_) (fun c_118 => ?_)
                    · refine gx_iload_n C dX9_next_125 rfl ?_
                      refine gx_istore_n C dX9_next_126 (by decide) ?_
                      first | refine gx_iincN C dX9_next_127 rfl (by decide) ?_ | refine gx_iinc1 C dX9_next_127 rfl (by decide) ?_
                      refine gx_goto (tgt := 5) C dX9_next_130 (by decide) ?_
                      first
                      | exact absurd rfl c_118
                      | exact absurd c_118 (by decide)
                      | (rw [if_neg c_109] at hs9; exact gx_nx hs9.symm (ih (j + 1) _ _ _ (by omega) (by omega)))
                      | (rw [if_pos c_109, if_pos (Or.inl c_113)] at hs9; exact gx_nx hs9.symm (ih (j + 1) _ _ _ (by omega) (by omega)))
                      | exact absurd hB0 c_113
                      | (rw [if_pos c_109, if_pos (Or.inr (pMore_1 (by omega) (by omega) c_51))] at hs9; exact gx_nx hs9.symm (ih (j + 1) _ _ _ (by omega) (by omega)))
                      | (rw [if_pos c_109, if_pos (Or.inr (pMore_2 (by omega) (by omega) c_71 (Int32.not_le.mp c_91)))] at hs9; exact gx_nx hs9.symm (ih (j + 1) _ _ _ (by omega) (by omega)))
                      | (have n3 := pMore_3 (cs := t.1.2.2.2.1.1) (ns := t.1.2.2.2.1.2.2.1) (j := j) (b := b) (by omega) (by omega) c_51 c_71; rw [if_pos c_109, if_neg (fun q => q.elim c_113 n3)] at hs9; exact gx_nx hs9.symm (ih (j + 1) _ _ _ (by omega) (by omega)))
                      | (have n3 := pMore_4 (cs := t.1.2.2.2.1.1) (ns := t.1.2.2.2.1.2.2.1) (j := j) (b := b) (by omega) (by omega) c_71 (Int32.not_lt.mpr c_91); rw [if_pos c_109, if_neg (fun q => q.elim c_113 n3)] at hs9; exact gx_nx hs9.symm (ih (j + 1) _ _ _ (by omega) (by omega)))
                    · refine gx_iload_n C dX9_next_121 rfl ?_
                      refine gx_goto (tgt := 126) C dX9_next_122 (by decide) ?_
                      refine gx_istore_n C dX9_next_126 (by decide) ?_
                      first | refine gx_iincN C dX9_next_127 rfl (by decide) ?_ | refine gx_iinc1 C dX9_next_127 rfl (by decide) ?_
                      refine gx_goto (tgt := 5) C dX9_next_130 (by decide) ?_
                      first
                      | exact absurd rfl c_118
                      | exact absurd c_118 (by decide)
                      | (rw [if_neg c_109] at hs9; exact gx_nx hs9.symm (ih (j + 1) _ _ _ (by omega) (by omega)))
                      | (rw [if_pos c_109, if_pos (Or.inl c_113)] at hs9; exact gx_nx hs9.symm (ih (j + 1) _ _ _ (by omega) (by omega)))
                      | exact absurd hB0 c_113
                      | (rw [if_pos c_109, if_pos (Or.inr (pMore_1 (by omega) (by omega) c_51))] at hs9; exact gx_nx hs9.symm (ih (j + 1) _ _ _ (by omega) (by omega)))
                      | (rw [if_pos c_109, if_pos (Or.inr (pMore_2 (by omega) (by omega) c_71 (Int32.not_le.mp c_91)))] at hs9; exact gx_nx hs9.symm (ih (j + 1) _ _ _ (by omega) (by omega)))
                      | (have n3 := pMore_3 (cs := t.1.2.2.2.1.1) (ns := t.1.2.2.2.1.2.2.1) (j := j) (b := b) (by omega) (by omega) c_51 c_71; rw [if_pos c_109, if_neg (fun q => q.elim c_113 n3)] at hs9; exact gx_nx hs9.symm (ih (j + 1) _ _ _ (by omega) (by omega)))
                      | (have n3 := pMore_4 (cs := t.1.2.2.2.1.1) (ns := t.1.2.2.2.1.2.2.1) (j := j) (b := b) (by omega) (by omega) c_71 (Int32.not_lt.mpr c_91); rw [if_pos c_109, if_neg (fun q => q.elim c_113 n3)] at hs9; exact gx_nx hs9.symm (ih (j + 1) _ _ _ (by omega) (by omega)))
  refine gx_bipush (v := (-4)) C dX9_next_0 (by decide) ?_
  refine gx_istore_n C dX9_next_2 (by decide) ?_
  refine gx_iconst (v := 0) C dX9_next_3 (by decide) ?_
  refine gx_istore_n C dX9_next_4 (by decide) ?_
  exact hloop (t.1.2.2.2.1.1.length + 1) 0 none none none (by omega) (by omega)
