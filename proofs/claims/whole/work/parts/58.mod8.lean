/-! THE MODEL: a mark comes to the list; merge -/
theorem lo_1 : ∀ q, q < 64 → ∀ r, r < 6 → nI q ||| ((1 : Int32) <<< (nI r &&& 31)) = nI (q ||| 2 ^ r) ∧ q ||| 2 ^ r < 64 := by decide +kernel
theorem lo_2 : ∀ b, b < 6 → ∀ r, r < 6 → pMin (nI b) (nI r) = nI (min b r) ∧ min b r < 6 := by decide +kernel
theorem lo_3 : ∀ r, r < 6 → (0 : Int32) ||| ((1 : Int32) <<< (nI r &&& 31)) = nI (2 ^ r) ∧ 2 ^ r < 64 := by decide +kernel
theorem lo_or {x y : Int32} {r : Nat} (h : loR x y) (hr : r < 6) : loR (x ||| ((1 : Int32) <<< (nI r &&& 31))) (pMin y (nI r)) := by
  obtain ⟨q, b, rfl, hq, rfl, hb, ht, h0⟩ := h
  refine ⟨q ||| 2 ^ r, min b r, (lo_1 q hq r hr).1, (lo_1 q hq r hr).2, (lo_2 b hb r hr).1, (lo_2 b hb r hr).2, ?_, fun j hj => ?_⟩
  · rw [Nat.testBit_or, Nat.testBit_two_pow]
    rcases Nat.lt_or_ge b r with y | y
    · rw [Nat.min_eq_left (by omega), ht]
      rfl
    · rw [Nat.min_eq_right (by omega), decide_eq_true (rfl : r = r), Bool.or_true]
  · rw [Nat.testBit_or, Nat.testBit_two_pow, h0 j (by omega), decide_eq_false (by omega)]
    rfl
theorem lo_new {r : Nat} (hr : r < 6) : loR ((0 : Int32) ||| ((1 : Int32) <<< (nI r &&& 31))) (nI r) := by
  refine ⟨2 ^ r, r, (lo_3 r hr).1, (lo_3 r hr).2, rfl, hr, ?_, fun j hj => ?_⟩
  · rw [Nat.testBit_two_pow, decide_eq_true (rfl : r = r)]
  · rw [Nat.testBit_two_pow, decide_eq_false (by omega)]
theorem mkR_ex {st f : Nat → Int32} {p q : Nat} {z : Int32} (h : mkR st p z) (e : ∀ i : Nat, i < 4 → f (q + i) = st (p + i)) : mkR f q z := by
  obtain ⟨h0, h1, h2, h3⟩ := h
  exact ⟨(e 0 (by decide)).trans h0, (e 1 (by decide)).trans h1, (e 2 (by decide)).trans h2, (e 3 (by decide)).trans h3⟩
theorem lapp_lt {cap : Nat} {xs : List Int32} {v : Int32} (h : xs.length < cap) : lapp cap xs v = xs ++ [v] := if_pos h
theorem pTake_n {li : ML} {z w : Int32} (h : ¬ z ∈ li.1) (h1 : li.1.length < 64) (h2 : li.2.1.length = li.1.length) (h3 : li.2.2.1.length = li.1.length) (h4 : li.2.2.2.length = li.1.length) : pTake li z w = (li.1 ++ [z], li.2.1 ++ [0], li.2.2.1 ++ [1], li.2.2.2 ++ [w]) := by
  unfold pTake
  rw [if_neg h, lapp_lt h1, lapp_lt (by omega), lapp_lt (by omega), lapp_lt (by omega)]
theorem lidx_m {cs : List Int32} {z : Int32} (h : z ∈ cs) : lidx cs z = nI (cs.idxOf z) := if_pos h
theorem pTake_o {li : ML} {z w : Int32} (h : z ∈ li.1) (h1 : li.1.length ≤ 64) : pTake li z w = (li.1, li.2.1, li.2.2.1.set (li.1.idxOf z) (li.2.2.1.getD (li.1.idxOf z) 0 + 1), li.2.2.2.set (li.1.idxOf z) (pMin (li.2.2.2.getD (li.1.idxOf z) 0) w)) := by
  have hi := List.idxOf_lt_length_iff.mpr h
  unfold pTake
  rw [if_pos h, lidx_m h, lset_nI (by omega), lget_nI (by omega), lset_nI (by omega), lget_nI (by omega)]
theorem sLi_new {st f : Nat → Int32} {li : ML} {n r : Nat} {z : Int32} (h : sLi st li n) (hlt : li.1.length < 64) (hni : ¬ z ∈ li.1) (hz : iOk z n) (hr : r < 6) (h3 : f 3 = nI (li.1.length + 1)) (hm : mkR f (407 + 7 * li.1.length) z) (e4 : f (407 + 7 * li.1.length + 4) = 0) (e5 : f (407 + 7 * li.1.length + 5) = 1) (e6 : loR (f (407 + 7 * li.1.length + 6)) (nI r))
    (e : ∀ q : Nat, 407 ≤ q → q < 407 + 7 * li.1.length → f q = st q) : sLi f (pTake li z (nI r)) n := by
  obtain ⟨h0, h1, h2, h4, h5, hn, h6⟩ := h
  rw [pTake_n hni hlt h2 h4 h5]
  refine ⟨by show f 3 = nI (li.1 ++ [z]).length; rw [len_1]; exact h3, by show (li.1 ++ [z]).length ≤ 64; rw [len_1]; omega, by show (li.2.1 ++ [0]).length = (li.1 ++ [z]).length; rw [len_1, len_1, h2], by show (li.2.2.1 ++ [1]).length = (li.1 ++ [z]).length; rw [len_1, len_1, h4], by show (li.2.2.2 ++ [nI r]).length = (li.1 ++ [z]).length; rw [len_1, len_1, h5], ?_, fun k hk => ?_⟩
  · show (li.1 ++ [z]).Nodup
    rw [List.nodup_append]
    refine ⟨hn, by simp, fun x hx y hy => ?_⟩
    have : y = z := by simpa using hy
    subst this
    exact fun q => hni (q ▸ hx)
  · have hk : k < (li.1 ++ [z]).length := hk
    rw [len_1] at hk
    show mkR f (407 + 7 * k) ((li.1 ++ [z]).getD k 0) ∧ iOk ((li.1 ++ [z]).getD k 0) n ∧ f (407 + 7 * k + 4) = (li.2.1 ++ [0]).getD k 0 ∧ (∃ q : Nat, q < 3 ∧ (li.2.1 ++ [0]).getD k 0 = nI q) ∧ f (407 + 7 * k + 5) = (li.2.2.1 ++ [1]).getD k 0 ∧ loR (f (407 + 7 * k + 6)) ((li.2.2.2 ++ [nI r]).getD k 0)
    by_cases q : k < li.1.length
    · rw [gDa_l q, gDa_l (by omega), gDa_l (by omega), gDa_l (by omega), e _ (by omega) (by omega), e _ (by omega) (by omega), e _ (by omega) (by omega)]
      obtain ⟨c0, c1⟩ := h6 k q
      exact ⟨mkR_cg c0 (fun j hj => e _ (by omega) (by omega)), c1⟩
    · have ek : k = li.1.length := by omega
      subst ek
      have d1 : (li.2.1 ++ [(0 : Int32)]).getD li.1.length 0 = 0 := by rw [← h2]; exact gDa_r
      have d2 : (li.2.2.1 ++ [(1 : Int32)]).getD li.1.length 0 = 1 := by rw [← h4]; exact gDa_r
      have d3 : (li.2.2.2 ++ [nI r]).getD li.1.length 0 = nI r := by rw [← h5]; exact gDa_r
      rw [gDa_r, d1, d2, d3]
      exact ⟨hm, hz, e4, ⟨0, by decide, rfl⟩, e5, e6⟩
theorem gD_idx {cs : List Int32} {z : Int32} (h : z ∈ cs) : cs.getD (cs.idxOf z) 0 = z := by
  rw [gD_in (List.idxOf_lt_length_iff.mpr h)]
  exact List.getElem_idxOf _
theorem sLi_old {st f : Nat → Int32} {li : ML} {n r i : Nat} {z : Int32} (h : sLi st li n) (hin : z ∈ li.1) (hi : i = li.1.idxOf z) (hr : r < 6) (e5 : f (407 + 7 * i + 5) = st (407 + 7 * i + 5) + 1) (e6 : f (407 + 7 * i + 6) = st (407 + 7 * i + 6) ||| ((1 : Int32) <<< (nI r &&& 31)))
    (e : ∀ q : Nat, q = 3 ∨ 407 ≤ q → q ≠ 407 + 7 * i + 5 → q ≠ 407 + 7 * i + 6 → f q = st q) : sLi f (pTake li z (nI r)) n := by
  obtain ⟨h0, h1, h2, h4, h5, hn, h6⟩ := h
  rw [pTake_o hin h1]
  subst hi
  have hil := List.idxOf_lt_length_iff.mpr hin
  refine ⟨by rw [e 3 (by omega) (by omega) (by omega)]; exact h0, h1, h2, by show (li.2.2.1.set _ _).length = _; rw [List.length_set]; exact h4, by show (li.2.2.2.set _ _).length = _; rw [List.length_set]; exact h5, hn, fun k hk => ?_⟩
  have hk : k < li.1.length := hk
  obtain ⟨c0, c1, c2, c3, c4, c5⟩ := h6 k hk
  refine ⟨mkR_cg c0 (fun j hj => e _ (by omega) (by omega) (by omega)), c1, by rw [e _ (by omega) (by omega) (by omega)]; exact c2, c3, ?_, ?_⟩
  · show f (407 + 7 * k + 5) = (li.2.2.1.set _ _).getD k 0
    by_cases q : k = li.1.idxOf z
    · rw [q, gDs_eq (by omega), e5, ← q, c4]
    · rw [gDs_ne (Ne.symm q), e _ (by omega) (by omega) (by omega)]
      exact c4
  · show loR (f (407 + 7 * k + 6)) ((li.2.2.2.set _ _).getD k 0)
    by_cases q : k = li.1.idxOf z
    · rw [q, gDs_eq (by omega), e6, ← q]
      exact lo_or c5 hr
    · rw [gDs_ne (Ne.symm q), e _ (by omega) (by omega) (by omega)]
      exact c5
set_option maxRecDepth 20000 in
theorem in_X9_comes_X9 : ∀ w ∈ wsX90, w ∈ wsX9_comes := by decide +kernel
set_option maxRecDepth 20000 in
theorem fd_X9_comes_7 : gFd wsX9_comes RX9 7 8 RX9 TX9 11 0 := ⟨in_X9_comes_X9, rfl, by decide, by decide +kernel⟩
theorem cb_X9_comes__X9_likeOf : gCb yX9_likeOf cX9_likeOf 3 (some .int) wsX9_likeOf (gR 1) (gR 2) 0 0 1 := ⟨rfl, rfl, rfl, by decide +kernel, by decide⟩
theorem cb_X9_comes__X9_listed : gCb yX9_listed cX9_listed 1 (some .int) wsX9_listed (gR 0) (gR 2) 0 0 1 := ⟨rfl, rfl, rfl, by decide +kernel, by decide⟩
set_option maxHeartbeats 600000 in
set_option maxRecDepth 100000 in
/-- X9_likeOf -/
theorem k9_likeOf2 (l : Launch) (D : gD) (A : Nat → Prop) (hs : Nat) {G : gH} {a : Nat} {z : MI} {st : Nat → Int32} (ho : gMob G a z) (hs1 : gMst D G (a + 1) 855 st) {li : ML} {n9 : Nat} (hL : sLi st li n9) {p1 : Nat} {x1 : Int32} (hp : mkR st p1 x1) (hp8 : p1 + 3 < 855) : gM l yX9_likeOf wsX9_likeOf (gR 1) D A hs 0 0 [.ref a, .int (nI p1)] G (gPi fun x G' => x = (if x1 ∈ li.1 then lidx li.1 x1 else -4) ∧ G' = G) := by
  refine gM_intro (by decide) rfl rfl (Nat.le_of_ble_eq_true rfl) ?_
  intro p e s m args below meth c C
  have r3 := hL.1
  have b3 := hL.2.1
  have hlen := hL.2.2.1
  have hloop : ∀ (n j : Nat) , li.1.length < j + n → j ≤ li.1.length → (∀ b, b < j → ¬ li.1.getD b 0 = x1) → gX p l e (gR 1) s m args below meth c D A 3 hs 0 0 (MQ below (gQ D A hs 0 (gPi fun x G' => x = (if x1 ∈ li.1 then lidx li.1 x1 else -4) ∧ G' = G)) args s 0 0 A) G [some (.ref a), some (.int (nI p1)), some (.int (nI j))] 2 [] := by
    intro n
    induction n with
    | zero => intro j hm hj0 hI; exact absurd hm (by omega)
    | succ n ih =>
      intro j hm hj0 hI
      refine gx_iload_n C dX9_likeOf_2 rfl ?_
      refine gx_aload_n C dX9_likeOf_3 rfl ?_
      refine gx_get C fd_X9_likeOf_7 (hG := ho) (hv := by rfl) dX9_likeOf_4 ?_
      refine gx_iconst (v := nI 3) C dX9_likeOf_7 (by decide) ?_
      refine gx_ialdN C (hG := hs1) (hk := by omega) (hn := by omega) dX9_likeOf_8 ?_
      rw [r3]
      refine gx_icmp_ge (tgt := 32) C dX9_likeOf_9 (by decide) (fun c_9 => ?_) (fun c_9 => ?_)
      · have hj : ¬ j < li.1.length := fun q => nI_ge q (by omega) c_9
        refine gx_bipush (v := (-4)) C dX9_likeOf_32 (by decide) ?_
        refine gx_zret (mc := 0) C rfl ?_ dX9_likeOf_34
        have hm9 : ¬ x1 ∈ li.1 := fun hm => by
          obtain ⟨i, hi, he⟩ := List.getElem_of_mem hm
          exact hI i (by omega) (by rw [gD_in hi]; exact he)
        exact ⟨_, rfl, by rw [if_neg hm9], rfl⟩
      · have hj : j < li.1.length := by
          rcases Nat.lt_or_ge (j) (li.1.length) with q | q
          · exact q
          · exact absurd (nI_le q (by omega)) c_9
        have lj := hL.2.2.2.2.2.2 j hj
        refine gx_aload_n C dX9_likeOf_12 rfl ?_
        refine gx_iload_n C dX9_likeOf_13 rfl ?_
        refine gx_iload_n C dX9_likeOf_14 rfl ?_
        refine gx_callS C (k9_listed l D A hs j) cb_X9_likeOf__X9_listed gX9_likeOf_X9_listed rfl rfl (Nat.le_of_ble_eq_true rfl) ⟨Nat.le_refl _, Nat.le_refl _⟩ dX9_likeOf_15 (gx_ki fun r_15 G_15 h_15 => ?_)
        obtain ⟨rfl, rfl⟩ := h_15
        refine gx_callV (ci := 8) (T := TX9) (N := 11) C (k9_areLike l D A hs ho hs1 hp lj.1 hp8 (by omega)) cb_X9_likeOf__X9_areLike gX9_likeOf_X9_areLike rfl (hG := ho) rfl rfl (Nat.le_of_ble_eq_true rfl) ⟨Nat.le_refl _, Nat.le_refl _⟩ dX9_likeOf_18 (gx_ki fun r_18 G_18 h_18 => ?_)
        obtain ⟨rfl, rfl⟩ := h_18
        refine gx_if_eq (tgt := 26) C dX9_likeOf_21 (by decide) (fun c_21 => ?_) (fun c_21 => ?_)
        · have q : ¬ x1 = li.1.getD j 0 := fun q => by
            rw [if_pos q] at c_21; exact absurd c_21 (by decide)
          first | refine gx_iincN C dX9_likeOf_26 rfl (by decide) ?_ | refine gx_iinc1 C dX9_likeOf_26 rfl (by decide) ?_
          refine gx_goto (tgt := 2) C dX9_likeOf_29 (by decide) ?_
          exact ih (j + 1) (by omega) (by omega) (fun b hb => by
            by_cases y : b = j
            · subst y; exact fun y => q y.symm
            · exact hI b (by omega))
        · have q : x1 = li.1.getD j 0 := by
            by_cases q : x1 = li.1.getD j 0
            · exact q
            · exact absurd (if_neg q) c_21
          refine gx_iload_n C dX9_likeOf_24 rfl ?_
          refine gx_zret (mc := 0) C rfl ?_ dX9_likeOf_25
          have hm9 : x1 ∈ li.1 := by rw [q, gD_in hj]; exact List.getElem_mem hj
          exact ⟨_, rfl, by rw [if_pos hm9]; exact gz_idx hj q.symm hI, rfl⟩
  refine gx_iconst (v := 0) C dX9_likeOf_0 (by decide) ?_
  refine gx_istore_n C dX9_likeOf_1 (by decide) ?_
  exact hloop (li.1.length + 1) 0 (by omega) (by omega) (fun b hb => absurd hb (by omega))
set_option maxHeartbeats 600000 in
set_option maxRecDepth 100000 in
/-- X9_comes -/
theorem k9_comes (l : Launch) (D : gD) (A : Nat → Prop) (hs : Nat) {G : gH} {G0 : gH} {a : Nat} {z : MI} {st pa ty md rd : Nat → Int32} (hM : gMa D G0 G a z st pa ty md rd) {li : ML} {n9 p1 r : Nat} {x1 : Int32} (hL : sLi st li n9) (hp : mkR st p1 x1) (hp8 : p1 + 3 < 407) (hz : iOk x1 n9) (hr : r < 6) (hlt : ¬ x1 ∈ li.1 → li.1.length < 64) : gM l yX9_comes wsX9_comes (gR 2) D A hs 0 0 [.ref a, .int (nI p1), .int (nI r)] G (gPi fun x G' => x = (if x1 ∈ li.1 then 1 else 0) ∧ ∃ f : Nat → Int32, gMa D G0 G' a z f pa ty md rd ∧ sLi f (pTake li x1 (nI r)) n9 ∧ ∀ q : Nat, q < 407 → q ≠ 3 → f q = st q) := by
  refine gM_intro (by decide) rfl rfl (Nat.le_of_ble_eq_true rfl) ?_
  intro p e s m args below meth c C
  have l3 := hL.2.1
  have hnew : ¬ x1 ∈ li.1 → gX p l e (gR 2) s m args below meth c D A 6 hs 0 0 (MQ below (gQ D A hs 0 (gPi fun x G' => x = (if x1 ∈ li.1 then 1 else 0) ∧ ∃ f : Nat → Int32, gMa D G0 G' a z f pa ty md rd ∧ sLi f (pTake li x1 (nI r)) n9 ∧ ∀ q : Nat, q < 407 → q ≠ 3 → f q = st q)) args s 0 0 A) G [some (.ref a), some (.int (nI p1)), some (.int (nI r)), some (.int (-4)), some (.int (nI (407 + 7 * li.1.length))), none] 25 [] := by
    intro hni
    have hlt9 := hlt hni
    have hloop : ∀ (n j : Nat) (G1 : gH), 4 < j + n → j ≤ 4 → gMa D G0 G1 a z (cpy st (fun i => st (p1 + i)) (407 + 7 * li.1.length) j) pa ty md rd → gX p l e (gR 2) s m args below meth c D A 6 hs 0 0 (MQ below (gQ D A hs 0 (gPi fun x G' => x = (if x1 ∈ li.1 then 1 else 0) ∧ ∃ f : Nat → Int32, gMa D G0 G' a z f pa ty md rd ∧ sLi f (pTake li x1 (nI r)) n9 ∧ ∀ q : Nat, q < 407 → q ≠ 3 → f q = st q)) args s 0 0 A) G1 [some (.ref a), some (.int (nI p1)), some (.int (nI r)), some (.int (-4)), some (.int (nI (407 + 7 * li.1.length))), some (.int (nI j))] 32 [] := by
      intro n
      induction n with
      | zero => intro j G1 hm hj0 hI; exact absurd hm (by omega)
      | succ n ih =>
        intro j G1 hm hj0 hI
        have hM := hI
        refine gx_iload C dX9_comes_32 rfl ?_
        refine gx_iconst (v := 3) C dX9_comes_34 (by decide) ?_
        refine gx_icmp_gt (tgt := 63) C dX9_comes_35 (by decide) (fun c_35 => ?_) (fun c_35 => ?_)
        · have hj : ¬ j ≤ 3 := fun q => nI_nlt q (by omega) c_35
          have j8 : j = 4 := by omega
          subst j8
          refine gx_aload_n C dX9_comes_63 rfl ?_
          refine gx_get C fd_X9_comes_7 (hG := hM.2.1) (hv := by rfl) dX9_comes_64 ?_
          refine gx_iload C dX9_comes_67 rfl ?_
          refine gx_iconst (v := nI 4) C dX9_comes_69 (by decide) ?_
          refine gx_iadd C dX9_comes_70 ?_
          first | refine gx_top (nI_add _ _) ?_ | skip
          refine gx_iconst (v := 0) C dX9_comes_71 (by decide) ?_
          refine gx_iastN C (hG := (by first | exact hM.2.2.1 | exact hM.2.2.2.1 | exact hM.2.2.2.2.1 | exact hM.2.2.2.2.2.1 | exact hM.2.2.2.2.2.2)) (hk := by omega) (hn := by omega) dX9_comes_72 ?_
          refine gx_stM hM (fun hM => ?_)
          refine gx_aload_n C dX9_comes_73 rfl ?_
          refine gx_get C fd_X9_comes_7 (hG := hM.2.1) (hv := by rfl) dX9_comes_74 ?_
          refine gx_iload C dX9_comes_77 rfl ?_
          refine gx_iconst (v := nI 5) C dX9_comes_79 (by decide) ?_
          refine gx_iadd C dX9_comes_80 ?_
          first | refine gx_top (nI_add _ _) ?_ | skip
          refine gx_iconst (v := 0) C dX9_comes_81 (by decide) ?_
          refine gx_iastN C (hG := (by first | exact hM.2.2.1 | exact hM.2.2.2.1 | exact hM.2.2.2.2.1 | exact hM.2.2.2.2.2.1 | exact hM.2.2.2.2.2.2)) (hk := by omega) (hn := by omega) dX9_comes_82 ?_
          refine gx_stM hM (fun hM => ?_)
          refine gx_aload_n C dX9_comes_83 rfl ?_
          refine gx_get C fd_X9_comes_7 (hG := hM.2.1) (hv := by rfl) dX9_comes_84 ?_
          refine gx_iload C dX9_comes_87 rfl ?_
          refine gx_bipush (v := nI 6) C dX9_comes_89 (by decide) ?_
          refine gx_iadd C dX9_comes_91 ?_
          first | refine gx_top (nI_add _ _) ?_ | skip
          refine gx_iconst (v := 0) C dX9_comes_92 (by decide) ?_
          refine gx_iastN C (hG := (by first | exact hM.2.2.1 | exact hM.2.2.2.1 | exact hM.2.2.2.2.1 | exact hM.2.2.2.2.2.1 | exact hM.2.2.2.2.2.2)) (hk := by omega) (hn := by omega) dX9_comes_93 ?_
          refine gx_stM hM (fun hM => ?_)
          refine gx_aload_n C dX9_comes_94 rfl ?_
          refine gx_get C fd_X9_comes_7 (hG := hM.2.1) (hv := by rfl) dX9_comes_95 ?_
          refine gx_iconst (v := nI 3) C dX9_comes_98 (by decide) ?_
          refine gx_dup2 C dX9_comes_99 rfl rfl ?_
          refine gx_ialdN C (hG := (by first | exact hM.2.2.1 | exact hM.2.2.2.1 | exact hM.2.2.2.2.1 | exact hM.2.2.2.2.2.1 | exact hM.2.2.2.2.2.2)) (hk := by omega) (hn := by omega) dX9_comes_100 ?_
          rw [pk_un (by omega), pk_un (by omega), pk_un (by omega), cpy_out (by omega), hL.1]
          refine gx_iconst (v := nI 1) C dX9_comes_101 (by decide) ?_
          refine gx_iadd C dX9_comes_102 ?_
          first | refine gx_top (nI_add _ _) ?_ | skip
          refine gx_iastN C (hG := (by first | exact hM.2.2.1 | exact hM.2.2.2.1 | exact hM.2.2.2.2.1 | exact hM.2.2.2.2.2.1 | exact hM.2.2.2.2.2.2)) (hk := by omega) (hn := by omega) dX9_comes_103 ?_
          refine gx_stM hM (fun hM => ?_)
          refine gx_aload_n C dX9_comes_104 rfl ?_
          refine gx_get C fd_X9_comes_7 (hG := hM.2.1) (hv := by rfl) dX9_comes_105 ?_
          refine gx_iload C dX9_comes_108 rfl ?_
          refine gx_iconst (v := nI 5) C dX9_comes_110 (by decide) ?_
          refine gx_iadd C dX9_comes_111 ?_
          first | refine gx_top (nI_add _ _) ?_ | skip
          refine gx_dup2 C dX9_comes_112 rfl rfl ?_
          refine gx_ialdN C (hG := (by first | exact hM.2.2.1 | exact hM.2.2.2.1 | exact hM.2.2.2.2.1 | exact hM.2.2.2.2.2.1 | exact hM.2.2.2.2.2.2)) (hk := by omega) (hn := by omega) dX9_comes_113 ?_
          rw [pk_un (by omega), pk_un (by omega), pk_us]
          refine gx_iconst (v := nI 1) C dX9_comes_114 (by decide) ?_
          refine gx_iadd C dX9_comes_115 ?_
          first | refine gx_top (nI_add _ _) ?_ | skip
          refine gx_iastN C (hG := (by first | exact hM.2.2.1 | exact hM.2.2.2.1 | exact hM.2.2.2.2.1 | exact hM.2.2.2.2.2.1 | exact hM.2.2.2.2.2.2)) (hk := by omega) (hn := by omega) dX9_comes_116 ?_
          refine gx_stM hM (fun hM => ?_)
          refine gx_aload_n C dX9_comes_117 rfl ?_
          refine gx_get C fd_X9_comes_7 (hG := hM.2.1) (hv := by rfl) dX9_comes_118 ?_
          refine gx_iload C dX9_comes_121 rfl ?_
          refine gx_bipush (v := nI 6) C dX9_comes_123 (by decide) ?_
          refine gx_iadd C dX9_comes_125 ?_
          first | refine gx_top (nI_add _ _) ?_ | skip
          refine gx_dup2 C dX9_comes_126 rfl rfl ?_
          refine gx_ialdN C (hG := (by first | exact hM.2.2.1 | exact hM.2.2.2.1 | exact hM.2.2.2.2.1 | exact hM.2.2.2.2.2.1 | exact hM.2.2.2.2.2.2)) (hk := by omega) (hn := by omega) dX9_comes_127 ?_
          rw [pk_un (by omega), pk_un (by omega), pk_us]
          refine gx_iconst (v := 1) C dX9_comes_128 (by decide) ?_
          refine gx_iload_n C dX9_comes_129 rfl ?_
          refine gx_ishl C dX9_comes_130 ?_
          refine gx_ior C dX9_comes_131 ?_
          refine gx_iastN C (hG := (by first | exact hM.2.2.1 | exact hM.2.2.2.1 | exact hM.2.2.2.2.1 | exact hM.2.2.2.2.2.1 | exact hM.2.2.2.2.2.2)) (hk := by omega) (hn := by omega) dX9_comes_132 ?_
          refine gx_stM hM (fun hM => ?_)
          refine gx_iload_n C dX9_comes_133 rfl ?_
          refine gx_if_lt (tgt := 141) C dX9_comes_134 (by decide) (fun c_134 => ?_) (fun c_134 => ?_)
          · refine gx_iconst (v := 0) C dX9_comes_141 (by decide) ?_
            refine gx_zret (mc := 0) C rfl ?_ dX9_comes_142
            refine ⟨_, rfl, (if_neg hni).symm, _, hM, sLi_new hL hlt9 hni hz hr ?_ ?_ ?_ ?_ ?_ ?_, ?_⟩
            · rw [pk_un (by omega), pk_un (by omega)]
              exact pk_us
            · exact mkR_ex hp (fun i hi => by rw [pk_un (by omega), pk_un (by omega), pk_un (by omega), pk_un (by omega), pk_un (by omega), pk_un (by omega), cpy_in (by omega), show 407 + 7 * li.1.length + i - (407 + 7 * li.1.length) = i by omega])
            · rw [pk_un (by omega), pk_un (by omega), pk_un (by omega), pk_un (by omega), pk_un (by omega)]
              exact pk_us
            · rw [pk_un (by omega)]
              exact pk_us.trans (by decide)
            · rw [pk_us]
              exact lo_new hr
            · intro q h1 h2
              rw [pk_un (by omega), pk_un (by omega), pk_un (by omega), pk_un (by omega), pk_un (by omega), pk_un (by omega), cpy_out (by omega)]
            · intro q h1 h2
              rw [pk_un (by omega), pk_un (by omega), pk_un (by omega), pk_un (by omega), pk_un (by omega), pk_un (by omega), cpy_out (by omega)]
          · exact absurd (by decide) c_134
        · have hj : j ≤ 3 := by
            rcases Nat.lt_or_ge 3 j with q | q
            · exact absurd (nI_lt q (by omega)) c_35
            · exact q
          refine gx_aload_n C dX9_comes_38 rfl ?_
          refine gx_get C fd_X9_comes_7 (hG := hM.2.1) (hv := by rfl) dX9_comes_39 ?_
          refine gx_iload C dX9_comes_42 rfl ?_
          refine gx_iload C dX9_comes_44 rfl ?_
          refine gx_iadd C dX9_comes_46 ?_
          first | refine gx_top (nI_add _ _) ?_ | skip
          refine gx_aload_n C dX9_comes_47 rfl ?_
          refine gx_get C fd_X9_comes_7 (hG := hM.2.1) (hv := by rfl) dX9_comes_48 ?_
          refine gx_iload_n C dX9_comes_51 rfl ?_
          refine gx_iload C dX9_comes_52 rfl ?_
          refine gx_iadd C dX9_comes_54 ?_
          first | refine gx_top (nI_add _ _) ?_ | skip
          refine gx_ialdN C (hG := (by first | exact hM.2.2.1 | exact hM.2.2.2.1 | exact hM.2.2.2.2.1 | exact hM.2.2.2.2.2.1 | exact hM.2.2.2.2.2.2)) (hk := by omega) (hn := by omega) dX9_comes_55 ?_
          rw [cpy_out (by omega)]
          refine gx_iastN C (hG := (by first | exact hM.2.2.1 | exact hM.2.2.2.1 | exact hM.2.2.2.2.1 | exact hM.2.2.2.2.2.1 | exact hM.2.2.2.2.2.2)) (hk := by omega) (hn := by omega) dX9_comes_56 ?_
          first | refine gx_iincN C dX9_comes_57 rfl (by decide) ?_ | refine gx_iinc1 C dX9_comes_57 rfl (by decide) ?_
          refine gx_goto (tgt := 32) C dX9_comes_60 (by decide) ?_
          exact ih (j + 1) _ (by omega) (by omega) (by rw [← cpy_s]; exact gMa_st hM)
    refine gx_iload_n C dX9_comes_25 rfl ?_
    refine gx_if_ge (tgt := 104) C dX9_comes_26 (by decide) (fun c_26 => ?_) (fun c_26 => ?_)
    · exact absurd c_26 (by decide)
    · refine gx_iconst (v := 0) C dX9_comes_29 (by decide) ?_
      refine gx_istore C dX9_comes_30 (by decide) ?_
      exact hloop 5 0 _ (by omega) (by omega) (by rw [cpy_0]; exact hM)
  have hold : x1 ∈ li.1 → gX p l e (gR 2) s m args below meth c D A 6 hs 0 0 (MQ below (gQ D A hs 0 (gPi fun x G' => x = (if x1 ∈ li.1 then 1 else 0) ∧ ∃ f : Nat → Int32, gMa D G0 G' a z f pa ty md rd ∧ sLi f (pTake li x1 (nI r)) n9 ∧ ∀ q : Nat, q < 407 → q ≠ 3 → f q = st q)) args s 0 0 A) G [some (.ref a), some (.int (nI p1)), some (.int (nI r)), some (.int (nI (li.1.idxOf x1))), some (.int (nI (407 + 7 * (li.1.idxOf x1)))), none] 25 [] := by
    intro hin
    have hil := List.idxOf_lt_length_iff.mpr hin
    refine gx_iload_n C dX9_comes_25 rfl ?_
    refine gx_if_ge (tgt := 104) C dX9_comes_26 (by decide) (fun c_26 => ?_) (fun c_26 => ?_)
    · refine gx_aload_n C dX9_comes_104 rfl ?_
      refine gx_get C fd_X9_comes_7 (hG := hM.2.1) (hv := by rfl) dX9_comes_105 ?_
      refine gx_iload C dX9_comes_108 rfl ?_
      refine gx_iconst (v := nI 5) C dX9_comes_110 (by decide) ?_
      refine gx_iadd C dX9_comes_111 ?_
      first | refine gx_top (nI_add _ _) ?_ | skip
      refine gx_dup2 C dX9_comes_112 rfl rfl ?_
      refine gx_ialdN C (hG := (by first | exact hM.2.2.1 | exact hM.2.2.2.1 | exact hM.2.2.2.2.1 | exact hM.2.2.2.2.2.1 | exact hM.2.2.2.2.2.2)) (hk := by omega) (hn := by omega) dX9_comes_113 ?_
      refine gx_iconst (v := nI 1) C dX9_comes_114 (by decide) ?_
      refine gx_iadd C dX9_comes_115 ?_
      first | refine gx_top (nI_add _ _) ?_ | skip
      refine gx_iastN C (hG := (by first | exact hM.2.2.1 | exact hM.2.2.2.1 | exact hM.2.2.2.2.1 | exact hM.2.2.2.2.2.1 | exact hM.2.2.2.2.2.2)) (hk := by omega) (hn := by omega) dX9_comes_116 ?_
      refine gx_stM hM (fun hM => ?_)
      refine gx_aload_n C dX9_comes_117 rfl ?_
      refine gx_get C fd_X9_comes_7 (hG := hM.2.1) (hv := by rfl) dX9_comes_118 ?_
      refine gx_iload C dX9_comes_121 rfl ?_
      refine gx_bipush (v := nI 6) C dX9_comes_123 (by decide) ?_
      refine gx_iadd C dX9_comes_125 ?_
      first | refine gx_top (nI_add _ _) ?_ | skip
      refine gx_dup2 C dX9_comes_126 rfl rfl ?_
      refine gx_ialdN C (hG := (by first | exact hM.2.2.1 | exact hM.2.2.2.1 | exact hM.2.2.2.2.1 | exact hM.2.2.2.2.2.1 | exact hM.2.2.2.2.2.2)) (hk := by omega) (hn := by omega) dX9_comes_127 ?_
      rw [pk_un (by omega)]
      refine gx_iconst (v := 1) C dX9_comes_128 (by decide) ?_
      refine gx_iload_n C dX9_comes_129 rfl ?_
      refine gx_ishl C dX9_comes_130 ?_
      refine gx_ior C dX9_comes_131 ?_
      refine gx_iastN C (hG := (by first | exact hM.2.2.1 | exact hM.2.2.2.1 | exact hM.2.2.2.2.1 | exact hM.2.2.2.2.2.1 | exact hM.2.2.2.2.2.2)) (hk := by omega) (hn := by omega) dX9_comes_132 ?_
      refine gx_stM hM (fun hM => ?_)
      refine gx_iload_n C dX9_comes_133 rfl ?_
      refine gx_if_lt (tgt := 141) C dX9_comes_134 (by decide) (fun c_134 => ?_) (fun c_134 => ?_)
      · exact absurd c_134 (nI_pos (by omega))
      · refine gx_iconst (v := 1) C dX9_comes_137 (by decide) ?_
        refine gx_goto (tgt := 142) C dX9_comes_138 (by decide) ?_
        refine gx_zret (mc := 0) C rfl ?_ dX9_comes_142
        exact ⟨_, rfl, (if_pos hin).symm, _, hM, sLi_old hL hin rfl hr (by rw [pk_un (by omega)]; exact pk_us) pk_us (fun q h1 h2 h3 => (pk_un h3).trans (pk_un h2)), fun q h1 h2 => (pk_un (by omega)).trans (pk_un (by omega))⟩
    · exact absurd (nI_pos' (by omega)) c_26
  refine gx_aload_n C dX9_comes_0 rfl ?_
  refine gx_iload_n C dX9_comes_1 rfl ?_
  refine gx_callV (ci := 8) (T := TX9) (N := 11) C (k9_likeOf2 l D A hs hM.2.1 hM.2.2.1 hL hp (by omega)) cb_X9_comes__X9_likeOf gX9_comes_X9_likeOf rfl (hG := hM.2.1) rfl rfl (Nat.le_of_ble_eq_true rfl) ⟨Nat.le_refl _, Nat.le_refl _⟩ dX9_comes_2 (gx_ki fun r_2 G_2 h_2 => ?_)
  obtain ⟨rfl, rfl⟩ := h_2
  refine gx_istore_n C dX9_comes_5 (by decide) ?_
  refine gx_iload_n C dX9_comes_6 rfl ?_
  refine gx_if_ge (tgt := 19) C dX9_comes_7 (by decide) (fun c_7 => ?_) (fun c_7 => ?_)
  · have hin := lk_1 (Int32.not_lt.mpr c_7)
    have eL : (if x1 ∈ li.1 then lidx li.1 x1 else -4) = nI (li.1.idxOf x1) := (if_pos hin).trans (lidx_m hin)
    rw [eL]
    refine gx_iload_n C dX9_comes_19 rfl ?_
    refine gx_callS C (k9_listed l D A hs _) cb_X9_comes__X9_listed gX9_comes_X9_listed rfl rfl (Nat.le_of_ble_eq_true rfl) ⟨Nat.le_refl _, Nat.le_refl _⟩ dX9_comes_20 (gx_ki fun r_20 G_20 h_20 => ?_)
    obtain ⟨rfl, rfl⟩ := h_20
    refine gx_istore C dX9_comes_23 (by decide) ?_
    first
    | exact hold hin
    | exact hnew hni
  · have hni := lk_0 (by omega) (Int32.not_le.mp c_7)
    have eL : (if x1 ∈ li.1 then lidx li.1 x1 else -4) = -4 := if_neg hni
    rw [eL]
    refine gx_aload_n C dX9_comes_10 rfl ?_
    refine gx_get C fd_X9_comes_7 (hG := hM.2.1) (hv := by rfl) dX9_comes_11 ?_
    refine gx_iconst (v := nI 3) C dX9_comes_14 (by decide) ?_
    refine gx_ialdN C (hG := (by first | exact hM.2.2.1 | exact hM.2.2.2.1 | exact hM.2.2.2.2.1 | exact hM.2.2.2.2.2.1 | exact hM.2.2.2.2.2.2)) (hk := by omega) (hn := by omega) dX9_comes_15 ?_
    rw [hL.1]
    refine gx_goto (tgt := 20) C dX9_comes_16 (by decide) ?_
    refine gx_callS C (k9_listed l D A hs _) cb_X9_comes__X9_listed gX9_comes_X9_listed rfl rfl (Nat.le_of_ble_eq_true rfl) ⟨Nat.le_refl _, Nat.le_refl _⟩ dX9_comes_20 (gx_ki fun r_20 G_20 h_20 => ?_)
    obtain ⟨rfl, rfl⟩ := h_20
    refine gx_istore C dX9_comes_23 (by decide) ?_
    first
    | exact hold hin
    | exact hnew hni
