/-! THE MODEL'S MARK TEXT: like marks, reasons -/
theorem mk_lk2 {f k : Nat → Int32} {x1 y1 : Int32} (hp : mkR f 0 x1) (hq : mkR k 0 y1) : (List.range 4).all (fun i => decide (f i = k i)) = true ↔ x1 = y1 := by
  rw [List.all_eq_true]
  constructor
  · intro h
    have h0 := h 0 (by decide)
    have h1 := h 1 (by decide)
    have h2 := h 2 (by decide)
    have h3 := h 3 (by decide)
    simp only [decide_eq_true_eq] at h0 h1 h2 h3
    exact pPart_eq (hp.1.symm.trans (h0.trans hq.1)) (hp.2.1.symm.trans (h1.trans hq.2.1)) (hp.2.2.1.symm.trans (h2.trans hq.2.2.1)) (hp.2.2.2.symm.trans (h3.trans hq.2.2.2))
  · rintro rfl i hi
    have := List.mem_range.mp hi
    simp only [decide_eq_true_eq]
    rcases (show i = 0 ∨ i = 1 ∨ i = 2 ∨ i = 3 by omega) with rfl | rfl | rfl | rfl
    · exact hp.1.trans hq.1.symm
    · exact hp.2.1.trans hq.2.1.symm
    · exact hp.2.2.1.trans hq.2.2.1.symm
    · exact hp.2.2.2.trans hq.2.2.2.symm
def tIt (rd st : Nat → Int32) (r s1 k i : Nat) : Int32 := if k < r then rd (4 * k + i) else st (127 + 35 * s1 + 3 + 4 * (k - r) + i)
def tCk (cd ms : List Int32) (k : Nat) : Int32 := if k < cd.length then cd.getD k 0 else ms.getD (k - cd.length) 0
theorem tIt_mk {rd st : Nat → Int32} {cd ms : List Int32} {s1 k : Nat} (hr : ∀ k : Nat, k < cd.length → mkR rd (4 * k) (cd.getD k 0)) (hm : ∀ k : Nat, k < ms.length → mkR st (127 + 35 * s1 + 3 + 4 * k) (ms.getD k 0)) (hk : k < ms.length + cd.length) : mkR (tIt rd st cd.length s1 k) 0 (tCk cd ms k) := by
  unfold mkR tIt tCk
  by_cases q : k < cd.length
  · rw [if_pos q, if_pos q, if_pos q, if_pos q, if_pos q]
    exact hr k q
  · rw [if_neg q, if_neg q, if_neg q, if_neg q, if_neg q]
    exact hm (k - cd.length) (by omega)
theorem tCk_any {cd ms : List Int32} {z : Int32} : (List.range (ms.length + cd.length)).any (fun k => decide (tCk cd ms k = z)) = true ↔ z ∈ ms ∨ z ∈ cd := by
  rw [List.any_eq_true]
  constructor
  · rintro ⟨k, hk, h⟩
    have hk := List.mem_range.mp hk
    simp only [decide_eq_true_eq] at h
    unfold tCk at h
    by_cases q : k < cd.length
    · rw [if_pos q, gD_in q] at h
      exact Or.inr (by rw [← h]; exact List.getElem_mem q)
    · rw [if_neg q, gD_in (show k - cd.length < ms.length by omega)] at h
      exact Or.inl (by rw [← h]; exact List.getElem_mem _)
  · rintro (h | h)
    · obtain ⟨i, hi, e⟩ := List.getElem_of_mem h
      refine ⟨i + cd.length, List.mem_range.mpr (by omega), ?_⟩
      simp only [decide_eq_true_eq]
      unfold tCk
      rw [if_neg (by omega), Nat.add_sub_cancel, gD_in hi]
      exact e
    · obtain ⟨i, hi, e⟩ := List.getElem_of_mem h
      refine ⟨i, List.mem_range.mpr (by omega), ?_⟩
      simp only [decide_eq_true_eq]
      unfold tCk
      rw [if_pos hi, gD_in hi]
      exact e
theorem tWhy_1 {sg ms cd : List Int32} {tl : Int32} {cu : Nat} (h : tKind sg cu < 0) : tWhy sg ms cd tl cu = 1 := if_pos h
theorem tWhy_2 {sg ms cd : List Int32} {tl : Int32} {cu : Nat} (h : ¬ tKind sg cu < 0) (hb : tBad sg cu) : tWhy sg ms cd tl cu = 2 := by
  rw [tWhy, if_neg h]
  exact if_pos hb
theorem tWhy_3 {sg ms cd : List Int32} {tl : Int32} {cu : Nat} (h : ¬ tKind sg cu < 0) (hb : ¬ tBad sg cu) : tWhy sg ms cd tl cu = if pOk (tKind sg cu) (tP1 sg cu).1 (tP2 sg cu).1 tl = 0 then 3 else if tCode sg cu ∈ ms ∨ tCode sg cu ∈ cd then 4 else if 8 ≤ ms.length + cd.length then 5 else 0 := by
  rw [tWhy, if_neg h]
  exact if_neg hb
theorem tWhy_z {sg ms cd : List Int32} {tl : Int32} {cu : Nat} (h : tWhy sg ms cd tl cu = 0) : ¬ tBad sg cu := fun hb => by
  by_cases q : tKind sg cu < 0
  · rw [tWhy_1 q] at h
    exact absurd h (by decide)
  · rw [tWhy_2 q hb] at h
    exact absurd h (by decide)
theorem tAll_y {sg ms : List Int32} {tl : Int32} {n cu : Nat} {cd : List Int32} (h : cu < sg.length) : tAll sg ms tl (n + 1) cu cd = if tWhy sg ms cd tl cu = 0 then tAll sg ms tl n ((tP3 sg cu).2 + 1) (cd ++ [tCode sg cu]) else (cu, cd, tWhy sg ms cd tl cu) := if_pos h
theorem tAll_n {sg ms : List Int32} {tl : Int32} {n cu : Nat} {cd : List Int32} (h : ¬ cu < sg.length) : tAll sg ms tl (n + 1) cu cd = (cu, cd, 0) := if_neg h
theorem rows_1 {f k : Nat → Int32} {cd : List Int32} {z : Int32} (hr : ∀ k : Nat, k < cd.length → mkR f (4 * k) (cd.getD k 0)) (e : ∀ q : Nat, q < 4 * cd.length → k q = f q) (hz : mkR k (4 * cd.length) z) : ∀ i : Nat, i < (cd ++ [z]).length → mkR k (4 * i) ((cd ++ [z]).getD i 0) := by
  intro i hi
  rw [len_1] at hi
  by_cases q : i < cd.length
  · rw [gDa_l q]
    exact mkR_cg (hr i q) (fun y hy => e _ (by omega))
  · obtain rfl : i = cd.length := by omega
    rw [gDa_r]
    exact hz
set_option maxRecDepth 20000 in
theorem in_X9_isThere_X9 : ∀ w ∈ wsX90, w ∈ wsX9_isThere := by decide +kernel
set_option maxRecDepth 20000 in
theorem fd_X9_isThere_164 : gFd wsX9_isThere RX9 164 8 RX9 TX9 11 10 := ⟨in_X9_isThere_X9, rfl, by decide, by decide +kernel⟩
set_option maxRecDepth 20000 in
theorem fd_X9_isThere_7 : gFd wsX9_isThere RX9 7 8 RX9 TX9 11 0 := ⟨in_X9_isThere_X9, rfl, by decide, by decide +kernel⟩
theorem cb_X9_isThere__X9_markOf : gCb yX9_markOf cX9_markOf 2 (some .int) wsX9_markOf (gR 0) (gR 1) 0 0 2 := ⟨rfl, rfl, rfl, by decide +kernel, by decide⟩
set_option maxRecDepth 20000 in
theorem fd_X9_isThere_22 : gFd wsX9_isThere RX9 22 8 RX9 TX9 11 9 := ⟨in_X9_isThere_X9, rfl, by decide, by decide +kernel⟩
theorem cb_X9_isThere__X9_of : gCb yX9_of cX9_of 3 (some .int) wsX9_of (gR 0) (gR 1) 0 0 2 := ⟨rfl, rfl, rfl, by decide +kernel, by decide⟩
set_option maxRecDepth 20000 in
theorem in_X9_reason_X9 : ∀ w ∈ wsX90, w ∈ wsX9_reason := by decide +kernel
set_option maxRecDepth 20000 in
theorem fd_X9_reason_151 : gFd wsX9_reason RX9 151 8 RX9 TX9 11 8 := ⟨in_X9_reason_X9, rfl, by decide, by decide +kernel⟩
set_option maxRecDepth 20000 in
theorem fd_X9_reason_170 : gFd wsX9_reason RX9 170 8 RX9 TX9 11 7 := ⟨in_X9_reason_X9, rfl, by decide, by decide +kernel⟩
theorem cb_X9_reason__X9_wordHere : gCb yX9_wordHere cX9_wordHere 5 (some .int) wsX9_wordHere (gR 1) (gR 4) 0 0 0 := ⟨rfl, rfl, rfl, by decide +kernel, by decide⟩
theorem cb_X9_reason__X9_isFormed : gCb yX9_isFormed cX9_isFormed 4 (some .boolean) wsX9_isFormed (gR 3) (gR 4) 0 0 1 := ⟨rfl, rfl, rfl, by decide +kernel, by decide⟩
theorem cb_X9_reason__X9_isInRange : gCb yX9_isInRange cX9_isInRange 4 (some .boolean) wsX9_isInRange (gR 0) (gR 4) 0 0 0 := ⟨rfl, rfl, rfl, by decide +kernel, by decide⟩
theorem cb_X9_reason__X9_isThere : gCb yX9_isThere cX9_isThere 8 (some .boolean) wsX9_isThere (gR 1) (gR 4) 0 0 1 := ⟨rfl, rfl, rfl, by decide +kernel, by decide⟩
theorem cb_X9_reason__X9_of : gCb yX9_of cX9_of 3 (some .int) wsX9_of (gR 0) (gR 4) 0 0 2 := ⟨rfl, rfl, rfl, by decide +kernel, by decide⟩
set_option maxRecDepth 20000 in
theorem fd_X9_reason_164 : gFd wsX9_reason RX9 164 8 RX9 TX9 11 10 := ⟨in_X9_reason_X9, rfl, by decide, by decide +kernel⟩
set_option maxRecDepth 20000 in
theorem in_X9_readsAll_X9 : ∀ w ∈ wsX90, w ∈ wsX9_readsAll := by decide +kernel
set_option maxRecDepth 20000 in
theorem fd_X9_readsAll_151 : gFd wsX9_readsAll RX9 151 8 RX9 TX9 11 8 := ⟨in_X9_readsAll_X9, rfl, by decide, by decide +kernel⟩
set_option maxRecDepth 20000 in
theorem fd_X9_readsAll_101 : gFd wsX9_readsAll RX9 101 8 RX9 TX9 11 4 := ⟨in_X9_readsAll_X9, rfl, by decide, by decide +kernel⟩
theorem cb_X9_readsAll__X9_reason : gCb yX9_reason cX9_reason 3 (some .int) wsX9_reason (gR 4) (gR 5) 0 0 1 := ⟨rfl, rfl, rfl, by decide +kernel, by decide⟩
set_option maxRecDepth 20000 in
theorem fd_X9_readsAll_164 : gFd wsX9_readsAll RX9 164 8 RX9 TX9 11 10 := ⟨in_X9_readsAll_X9, rfl, by decide, by decide +kernel⟩
set_option maxHeartbeats 600000 in
set_option maxRecDepth 100000 in
/-- X9_isThere -/
theorem k9_isThere (l : Launch) (D : gD) (A : Nat → Prop) (hs : Nat) {G : gH} {G0 : gH} {a : Nat} {z0 z1 z2 z3 z4 : Int32} {st pa ty md rd : Nat → Int32} {cd : List Int32} {z9 : Int32} (hM : gMa D G0 G a (z0, z1, z2, z3, z4, nI cd.length) st pa ty md rd) {c9 : SH} {n9 s1 : Nat} (hS : shR st (127 + 35 * s1) c9 n9) (hs8 : s1 < 8) (hrd : ∀ k : Nat, k < cd.length → mkR rd (4 * k) (cd.getD k 0)) (hz : mkR rd (4 * cd.length) z9) (h8 : c9.2.2.length + cd.length ≤ 8) : gM l yX9_isThere wsX9_isThere (gR 1) D A hs 0 0 [.ref a, .int (nI s1)] G (gPi fun x G' => x = (if z9 ∈ c9.2.2 ∨ z9 ∈ cd then 1 else 0) ∧ G' = G) := by
  refine gM_intro (by decide) rfl rfl (Nat.le_of_ble_eq_true rfl) ?_
  intro p e s m args below meth c C
  have hz0 : mkR (fun i => rd (4 * cd.length + i)) 0 z9 := hz
  have hloop : ∀ (n j : Nat) (o5 o6 o7 : Option Value), (c9.2.2.length + cd.length) < j + n → j ≤ (c9.2.2.length + cd.length) → gX p l e (gR 1) s m args below meth c D A 8 hs 0 0 (MQ below (gQ D A hs 0 (gPi fun x G' => x = (if z9 ∈ c9.2.2 ∨ z9 ∈ cd then 1 else 0) ∧ G' = G)) args s 0 0 A) G [some (.ref a), some (.int (nI s1)), some (.int (nI (4 * cd.length))), some (.int (if (List.range j).any (fun k => decide (tCk cd c9.2.2 k = z9)) = true then (1 : Int32) else 0)), some (.int (nI j)), o5, o6, o7] 12 [] := by
    intro n
    induction n with
    | zero => intro j o5 o6 o7 hm hj0; exact absurd hm (by omega)
    | succ n ih =>
      intro j o5 o6 o7 hm hj0
      have ihO := ih
      have hin : ∀ (n i : Nat) (o7 : Option Value), 4 < i + n → i ≤ 4 → j < c9.2.2.length + cd.length → gX p l e (gR 1) s m args below meth c D A 8 hs 0 0 (MQ below (gQ D A hs 0 (gPi fun x G' => x = (if z9 ∈ c9.2.2 ∨ z9 ∈ cd then 1 else 0) ∧ G' = G)) args s 0 0 A) G [some (.ref a), some (.int (nI s1)), some (.int (nI (4 * cd.length))), some (.int (if (List.range j).any (fun k => decide (tCk cd c9.2.2 k = z9)) = true then (1 : Int32) else 0)), some (.int (nI j)), some (.int (if (List.range i).all (fun i => decide (tIt rd st cd.length s1 j i = rd (4 * cd.length + i))) = true then (1 : Int32) else 0)), some (.int (nI i)), o7] 34 [] := by
        intro n
        induction n with
        | zero => intro i o7 hm hi0 hj; exact absurd hm (by omega)
        | succ n ih =>
          intro i o7 hm hi0 hj
          refine gx_iload C dX9_isThere_34 rfl ?_
          refine gx_iconst (v := 4) C dX9_isThere_36 (by decide) ?_
          refine gx_icmp_ge (tgt := 117) C dX9_isThere_37 (by decide) (fun c_37 => ?_) (fun c_37 => ?_)
          · have hi4 : ¬ i < 4 := fun q => nI_ge q (by omega) c_37
            obtain rfl : i = 4 := by omega
            have hlk := mk_lk2 (tIt_mk (rd := rd) (st := st) (s1 := s1) hrd (fun k hk => (hS.2.2.2.2.2.2 k hk).1) (k := j) hj) hz0
            refine gx_iload_n C dX9_isThere_117 rfl ?_
            refine gx_if_ne (tgt := 126) C dX9_isThere_118 (by decide) (fun c_118 => ?_) (fun c_118 => ?_)
            · have hy := pI1 (c := (List.range j).any (fun k => decide (tCk cd c9.2.2 k = z9)) = true ∨ (fun k => decide (tCk cd c9.2.2 k = z9)) j = true) (Or.inl (pAny_1 c_118))
              refine gx_iconst (v := 1) C dX9_isThere_126 (by decide) ?_
              refine gx_goto (tgt := 131) C dX9_isThere_127 (by decide) ?_
              refine gx_istore_n C dX9_isThere_131 (by decide) ?_
              first | refine gx_iincN C dX9_isThere_132 rfl (by decide) ?_ | refine gx_iinc1 C dX9_isThere_132 rfl (by decide) ?_
              refine gx_goto (tgt := 12) C dX9_isThere_135 (by decide) ?_
              refine gx_V ?_ (ihO (j + 1) (some (.int (if (List.range 4).all (fun i => decide (tIt rd st cd.length s1 j i = rd (4 * cd.length + i))) = true then (1 : Int32) else 0))) (some (.int (nI 4))) o7 (by omega) (by omega))
              rw [← pAny_s (f := (fun k => decide (tCk cd c9.2.2 k = z9))) (j := j) _ hy.symm]
              rfl
            · refine gx_iload C dX9_isThere_121 rfl ?_
              refine gx_if_eq (tgt := 130) C dX9_isThere_123 (by decide) (fun c_123 => ?_) (fun c_123 => ?_)
              · have hy := pI0 (c := (List.range j).any (fun k => decide (tCk cd c9.2.2 k = z9)) = true ∨ (fun k => decide (tCk cd c9.2.2 k = z9)) j = true) (fun q => q.elim (pAny_0 c_118) (fun q => by simp only [decide_eq_true_eq] at q; exact pAll_0 c_123 (hlk.mpr q)))
                refine gx_iconst (v := 0) C dX9_isThere_130 (by decide) ?_
                refine gx_istore_n C dX9_isThere_131 (by decide) ?_
                first | refine gx_iincN C dX9_isThere_132 rfl (by decide) ?_ | refine gx_iinc1 C dX9_isThere_132 rfl (by decide) ?_
                refine gx_goto (tgt := 12) C dX9_isThere_135 (by decide) ?_
                refine gx_V ?_ (ihO (j + 1) (some (.int (if (List.range 4).all (fun i => decide (tIt rd st cd.length s1 j i = rd (4 * cd.length + i))) = true then (1 : Int32) else 0))) (some (.int (nI 4))) o7 (by omega) (by omega))
                rw [← pAny_s (f := (fun k => decide (tCk cd c9.2.2 k = z9))) (j := j) _ hy.symm]
                rfl
              · have hy := pI1 (c := (List.range j).any (fun k => decide (tCk cd c9.2.2 k = z9)) = true ∨ (fun k => decide (tCk cd c9.2.2 k = z9)) j = true) (Or.inr (by simp only [decide_eq_true_eq]; exact hlk.mp (pAll_1 c_123)))
                refine gx_iconst (v := 1) C dX9_isThere_126 (by decide) ?_
                refine gx_goto (tgt := 131) C dX9_isThere_127 (by decide) ?_
                refine gx_istore_n C dX9_isThere_131 (by decide) ?_
                first | refine gx_iincN C dX9_isThere_132 rfl (by decide) ?_ | refine gx_iinc1 C dX9_isThere_132 rfl (by decide) ?_
                refine gx_goto (tgt := 12) C dX9_isThere_135 (by decide) ?_
                refine gx_V ?_ (ihO (j + 1) (some (.int (if (List.range 4).all (fun i => decide (tIt rd st cd.length s1 j i = rd (4 * cd.length + i))) = true then (1 : Int32) else 0))) (some (.int (nI 4))) o7 (by omega) (by omega))
                rw [← pAny_s (f := (fun k => decide (tCk cd c9.2.2 k = z9))) (j := j) _ hy.symm]
                rfl
          · have hi : i < 4 := by
              rcases Nat.lt_or_ge (i) (4) with q | q
              · exact q
              · exact absurd (nI_le q (by omega)) c_37
            refine gx_iload C dX9_isThere_40 rfl ?_
            refine gx_aload_n C dX9_isThere_42 rfl ?_
            refine gx_get C fd_X9_isThere_164 (hG := hM.2.1) (hv := by rfl) dX9_isThere_43 ?_
            refine gx_icmp_ge (tgt := 64) C dX9_isThere_46 (by decide) (fun c_46 => ?_) (fun c_46 => ?_)
            · have hjr : ¬ j < cd.length := fun q => nI_ge q (by omega) c_46
              refine gx_aload_n C dX9_isThere_64 rfl ?_
              refine gx_get C fd_X9_isThere_7 (hG := hM.2.1) (hv := by rfl) dX9_isThere_65 ?_
              refine gx_iload_n C dX9_isThere_68 rfl ?_
              refine gx_iload C dX9_isThere_69 rfl ?_
              refine gx_aload_n C dX9_isThere_71 rfl ?_
              refine gx_get C fd_X9_isThere_164 (hG := hM.2.1) (hv := by rfl) dX9_isThere_72 ?_
              refine gx_isub C dX9_isThere_75 ?_
              refine gx_top (y := nI (j - cd.length)) (pk_sub (by omega)) ?_
              refine gx_callS C (k9_markOf l D A hs s1 (j - cd.length)) cb_X9_isThere__X9_markOf gX9_isThere_X9_markOf rfl rfl (Nat.le_of_ble_eq_true rfl) ⟨Nat.le_refl _, Nat.le_refl _⟩ dX9_isThere_76 (gx_ki fun r_76 G_76 h_76 => ?_)
              obtain ⟨rfl, rfl⟩ := h_76
              refine gx_iload C dX9_isThere_79 rfl ?_
              refine gx_iadd C dX9_isThere_81 ?_
              first | refine gx_top (nI_add _ _) ?_ | skip
              refine gx_ialdN C (hG := (by first | exact hM.2.2.1 | exact hM.2.2.2.1 | exact hM.2.2.2.2.1 | exact hM.2.2.2.2.2.1 | exact hM.2.2.2.2.2.2)) (hk := by omega) (hn := by omega) dX9_isThere_82 ?_
              rw [show st (127 + 35 * s1 + 3 + 4 * (j - cd.length) + i) = tIt rd st cd.length s1 j i from (if_neg hjr).symm]
              refine gx_istore C dX9_isThere_83 (by decide) ?_
              refine gx_iload C dX9_isThere_85 rfl ?_
              refine gx_if_eq (tgt := 108) C dX9_isThere_87 (by decide) (fun c_87 => ?_) (fun c_87 => ?_)
              · have hy := pI0 (c := (List.range i).all (fun i => decide (tIt rd st cd.length s1 j i = rd (4 * cd.length + i))) = true ∧ (fun i => decide (tIt rd st cd.length s1 j i = rd (4 * cd.length + i))) i = true) (fun q => pAll_0 c_87 q.1)
                refine gx_iconst (v := 0) C dX9_isThere_108 (by decide) ?_
                refine gx_istore C dX9_isThere_109 (by decide) ?_
                first | refine gx_iincN C dX9_isThere_111 rfl (by decide) ?_ | refine gx_iinc1 C dX9_isThere_111 rfl (by decide) ?_
                refine gx_goto (tgt := 34) C dX9_isThere_114 (by decide) ?_
                refine gx_V ?_ (ih (i + 1) (some (.int (tIt rd st cd.length s1 j i))) (by omega) (by omega) hj)
                rw [← pAll_s (f := (fun i => decide (tIt rd st cd.length s1 j i = rd (4 * cd.length + i)))) (j := i) _ hy.symm]
                rfl
              · refine gx_iload C dX9_isThere_90 rfl ?_
                refine gx_aload_n C dX9_isThere_92 rfl ?_
                refine gx_get C fd_X9_isThere_22 (hG := hM.2.1) (hv := by rfl) dX9_isThere_93 ?_
                refine gx_iload_n C dX9_isThere_96 rfl ?_
                refine gx_iload C dX9_isThere_97 rfl ?_
                refine gx_iadd C dX9_isThere_99 ?_
                first | refine gx_top (nI_add _ _) ?_ | skip
                refine gx_ialdN C (hG := (by first | exact hM.2.2.1 | exact hM.2.2.2.1 | exact hM.2.2.2.2.1 | exact hM.2.2.2.2.2.1 | exact hM.2.2.2.2.2.2)) (hk := by omega) (hn := by omega) dX9_isThere_100 ?_
                refine gx_icmp_ne (tgt := 108) C dX9_isThere_101 (by decide) (fun c_101 => ?_) (fun c_101 => ?_)
                · have hy := pI0 (c := (List.range i).all (fun i => decide (tIt rd st cd.length s1 j i = rd (4 * cd.length + i))) = true ∧ (fun i => decide (tIt rd st cd.length s1 j i = rd (4 * cd.length + i))) i = true) (fun q => by have q2 := q.2; simp only [decide_eq_true_eq] at q2; exact c_101 q2)
                  refine gx_iconst (v := 0) C dX9_isThere_108 (by decide) ?_
                  refine gx_istore C dX9_isThere_109 (by decide) ?_
                  first | refine gx_iincN C dX9_isThere_111 rfl (by decide) ?_ | refine gx_iinc1 C dX9_isThere_111 rfl (by decide) ?_
                  refine gx_goto (tgt := 34) C dX9_isThere_114 (by decide) ?_
                  refine gx_V ?_ (ih (i + 1) (some (.int (tIt rd st cd.length s1 j i))) (by omega) (by omega) hj)
                  rw [← pAll_s (f := (fun i => decide (tIt rd st cd.length s1 j i = rd (4 * cd.length + i)))) (j := i) _ hy.symm]
                  rfl
                · have hy := pI1 (c := (List.range i).all (fun i => decide (tIt rd st cd.length s1 j i = rd (4 * cd.length + i))) = true ∧ (fun i => decide (tIt rd st cd.length s1 j i = rd (4 * cd.length + i))) i = true) ⟨pAll_1 c_87, by simp only [decide_eq_true_eq]; exact c_101⟩
                  refine gx_iconst (v := 1) C dX9_isThere_104 (by decide) ?_
                  refine gx_goto (tgt := 109) C dX9_isThere_105 (by decide) ?_
                  refine gx_istore C dX9_isThere_109 (by decide) ?_
                  first | refine gx_iincN C dX9_isThere_111 rfl (by decide) ?_ | refine gx_iinc1 C dX9_isThere_111 rfl (by decide) ?_
                  refine gx_goto (tgt := 34) C dX9_isThere_114 (by decide) ?_
                  refine gx_V ?_ (ih (i + 1) (some (.int (tIt rd st cd.length s1 j i))) (by omega) (by omega) hj)
                  rw [← pAll_s (f := (fun i => decide (tIt rd st cd.length s1 j i = rd (4 * cd.length + i)))) (j := i) _ hy.symm]
                  rfl
            · have hjr : j < cd.length := by
                rcases Nat.lt_or_ge (j) (cd.length) with q | q
                · exact q
                · exact absurd (nI_le q (by omega)) c_46
              refine gx_aload_n C dX9_isThere_49 rfl ?_
              refine gx_get C fd_X9_isThere_22 (hG := hM.2.1) (hv := by rfl) dX9_isThere_50 ?_
              refine gx_iconst (v := nI 4) C dX9_isThere_53 (by decide) ?_
              refine gx_iload C dX9_isThere_54 rfl ?_
              refine gx_imul C dX9_isThere_56 ?_
              first | refine gx_top (pk_mul _ _) ?_ | skip
              refine gx_iload C dX9_isThere_57 rfl ?_
              refine gx_iadd C dX9_isThere_59 ?_
              first | refine gx_top (nI_add _ _) ?_ | skip
              refine gx_ialdN C (hG := (by first | exact hM.2.2.1 | exact hM.2.2.2.1 | exact hM.2.2.2.2.1 | exact hM.2.2.2.2.2.1 | exact hM.2.2.2.2.2.2)) (hk := by omega) (hn := by omega) dX9_isThere_60 ?_
              rw [show rd (4 * j + i) = tIt rd st cd.length s1 j i from (if_pos hjr).symm]
              refine gx_goto (tgt := 83) C dX9_isThere_61 (by decide) ?_
              refine gx_istore C dX9_isThere_83 (by decide) ?_
              refine gx_iload C dX9_isThere_85 rfl ?_
              refine gx_if_eq (tgt := 108) C dX9_isThere_87 (by decide) (fun c_87 => ?_) (fun c_87 => ?_)
              · have hy := pI0 (c := (List.range i).all (fun i => decide (tIt rd st cd.length s1 j i = rd (4 * cd.length + i))) = true ∧ (fun i => decide (tIt rd st cd.length s1 j i = rd (4 * cd.length + i))) i = true) (fun q => pAll_0 c_87 q.1)
                refine gx_iconst (v := 0) C dX9_isThere_108 (by decide) ?_
                refine gx_istore C dX9_isThere_109 (by decide) ?_
                first | refine gx_iincN C dX9_isThere_111 rfl (by decide) ?_ | refine gx_iinc1 C dX9_isThere_111 rfl (by decide) ?_
                refine gx_goto (tgt := 34) C dX9_isThere_114 (by decide) ?_
                refine gx_V ?_ (ih (i + 1) (some (.int (tIt rd st cd.length s1 j i))) (by omega) (by omega) hj)
                rw [← pAll_s (f := (fun i => decide (tIt rd st cd.length s1 j i = rd (4 * cd.length + i)))) (j := i) _ hy.symm]
                rfl
              · refine gx_iload C dX9_isThere_90 rfl ?_
                refine gx_aload_n C dX9_isThere_92 rfl ?_
                refine gx_get C fd_X9_isThere_22 (hG := hM.2.1) (hv := by rfl) dX9_isThere_93 ?_
                refine gx_iload_n C dX9_isThere_96 rfl ?_
                refine gx_iload C dX9_isThere_97 rfl ?_
                refine gx_iadd C dX9_isThere_99 ?_
                first | refine gx_top (nI_add _ _) ?_ | skip
                refine gx_ialdN C (hG := (by first | exact hM.2.2.1 | exact hM.2.2.2.1 | exact hM.2.2.2.2.1 | exact hM.2.2.2.2.2.1 | exact hM.2.2.2.2.2.2)) (hk := by omega) (hn := by omega) dX9_isThere_100 ?_
                refine gx_icmp_ne (tgt := 108) C dX9_isThere_101 (by decide) (fun c_101 => ?_) (fun c_101 => ?_)
                · have hy := pI0 (c := (List.range i).all (fun i => decide (tIt rd st cd.length s1 j i = rd (4 * cd.length + i))) = true ∧ (fun i => decide (tIt rd st cd.length s1 j i = rd (4 * cd.length + i))) i = true) (fun q => by have q2 := q.2; simp only [decide_eq_true_eq] at q2; exact c_101 q2)
                  refine gx_iconst (v := 0) C dX9_isThere_108 (by decide) ?_
                  refine gx_istore C dX9_isThere_109 (by decide) ?_
                  first | refine gx_iincN C dX9_isThere_111 rfl (by decide) ?_ | refine gx_iinc1 C dX9_isThere_111 rfl (by decide) ?_
                  refine gx_goto (tgt := 34) C dX9_isThere_114 (by decide) ?_
                  refine gx_V ?_ (ih (i + 1) (some (.int (tIt rd st cd.length s1 j i))) (by omega) (by omega) hj)
                  rw [← pAll_s (f := (fun i => decide (tIt rd st cd.length s1 j i = rd (4 * cd.length + i)))) (j := i) _ hy.symm]
                  rfl
                · have hy := pI1 (c := (List.range i).all (fun i => decide (tIt rd st cd.length s1 j i = rd (4 * cd.length + i))) = true ∧ (fun i => decide (tIt rd st cd.length s1 j i = rd (4 * cd.length + i))) i = true) ⟨pAll_1 c_87, by simp only [decide_eq_true_eq]; exact c_101⟩
                  refine gx_iconst (v := 1) C dX9_isThere_104 (by decide) ?_
                  refine gx_goto (tgt := 109) C dX9_isThere_105 (by decide) ?_
                  refine gx_istore C dX9_isThere_109 (by decide) ?_
                  first | refine gx_iincN C dX9_isThere_111 rfl (by decide) ?_ | refine gx_iinc1 C dX9_isThere_111 rfl (by decide) ?_
                  refine gx_goto (tgt := 34) C dX9_isThere_114 (by decide) ?_
                  refine gx_V ?_ (ih (i + 1) (some (.int (tIt rd st cd.length s1 j i))) (by omega) (by omega) hj)
                  rw [← pAll_s (f := (fun i => decide (tIt rd st cd.length s1 j i = rd (4 * cd.length + i)))) (j := i) _ hy.symm]
                  rfl
      refine gx_iload C dX9_isThere_12 rfl ?_
      refine gx_aload_n C dX9_isThere_14 rfl ?_
      refine gx_iload_n C dX9_isThere_15 rfl ?_
      refine gx_iconst (v := nI 2) C dX9_isThere_16 (by decide) ?_
      refine gx_callV (ci := 8) (T := TX9) (N := 11) C (k9_of l D A hs hM.2.1 hM.2.2.1 s1 2 (by omega)) cb_X9_isThere__X9_of gX9_isThere_X9_of rfl (hG := hM.2.1) rfl rfl (Nat.le_of_ble_eq_true rfl) ⟨Nat.le_refl _, Nat.le_refl _⟩ dX9_isThere_17 (gx_ki fun r_17 G_17 h_17 => ?_)
      obtain ⟨rfl, rfl⟩ := h_17
      rw [hS.2.2.1]
      refine gx_aload_n C dX9_isThere_20 rfl ?_
      refine gx_get C fd_X9_isThere_164 (hG := hM.2.1) (hv := by rfl) dX9_isThere_21 ?_
      refine gx_iadd C dX9_isThere_24 ?_
      first | refine gx_top (nI_add _ _) ?_ | skip
      refine gx_icmp_ge (tgt := 138) C dX9_isThere_25 (by decide) (fun c_25 => ?_) (fun c_25 => ?_)
      · have hj : ¬ j < c9.2.2.length + cd.length := fun q => nI_ge q (by omega) c_25
        refine gx_iload_n C dX9_isThere_138 rfl ?_
        refine gx_zret (mc := 0) C (gz_b (by split <;> simp)) ?_ dX9_isThere_139
        obtain rfl : j = c9.2.2.length + cd.length := by omega
        exact ⟨_, rfl, by simp only [tCk_any], rfl⟩
      · have hj : j < c9.2.2.length + cd.length := by
          rcases Nat.lt_or_ge (j) (c9.2.2.length + cd.length) with q | q
          · exact q
          · exact absurd (nI_le q (by omega)) c_25
        refine gx_iconst (v := 1) C dX9_isThere_28 (by decide) ?_
        refine gx_istore C dX9_isThere_29 (by decide) ?_
        refine gx_iconst (v := nI 0) C dX9_isThere_31 (by decide) ?_
        refine gx_istore C dX9_isThere_32 (by decide) ?_
        refine gx_V ?_ (hin 5 0 o7 (by omega) (by omega) hj)
        rfl
  refine gx_iconst (v := nI 4) C dX9_isThere_0 (by decide) ?_
  refine gx_aload_n C dX9_isThere_1 rfl ?_
  refine gx_get C fd_X9_isThere_164 (hG := hM.2.1) (hv := by rfl) dX9_isThere_2 ?_
  refine gx_imul C dX9_isThere_5 ?_
  first | refine gx_top (pk_mul _ _) ?_ | skip
  refine gx_istore_n C dX9_isThere_6 (by decide) ?_
  refine gx_iconst (v := 0) C dX9_isThere_7 (by decide) ?_
  refine gx_istore_n C dX9_isThere_8 (by decide) ?_
  refine gx_iconst (v := nI 0) C dX9_isThere_9 (by decide) ?_
  refine gx_istore C dX9_isThere_10 (by decide) ?_
  exact hloop (c9.2.2.length + cd.length + 1) 0 none none none (by omega) (by omega)
set_option maxHeartbeats 600000 in
set_option maxRecDepth 100000 in
/-- X9_reason -/
theorem k9_reason (l : Launch) (D : gD) (A : Nat → Prop) (hs : Nat) {G : gH} {G0 : gH} {a : Nat} {z0 z2 z3 : Int32} {st pa ty md rd : Nat → Int32} {sg cd : List Int32} {cu : Nat} (hM : gMa D G0 G a (z0, nI sg.length, z2, z3, nI cu, nI cd.length) st pa ty md rd) (hT : tyR ty sg) (hcu : cu ≤ sg.length) {c9 : SH} {n9 s1 : Nat} (hS : shR st (127 + 35 * s1) c9 n9) (hs8 : s1 < 8) (h0 : st 0 = nI n9) (hn : n9 ≤ 100) (hrd : ∀ k : Nat, k < cd.length → mkR rd (4 * k) (cd.getD k 0)) (h8 : c9.2.2.length + cd.length ≤ 8) : gM l yX9_reason wsX9_reason (gR 4) D A hs 0 0 [.ref a, .int (nI s1)] G (gPi fun x G' => (x = 0 ∧ tWhy sg c9.2.2 cd (nI n9) cu = 0 ∧ iOk (tCode sg cu) n9 ∧ ∃ rd' : Nat → Int32, gMa D G0 G' a (z0, nI sg.length, z2, nI cu, nI ((tP3 sg cu).2 + 1), nI (cd.length + 1)) st pa ty md rd' ∧ ∀ k : Nat, k < (cd ++ [tCode sg cu]).length → mkR rd' (4 * k) ((cd ++ [tCode sg cu]).getD k 0)) ∨ (¬ x = 0 ∧ x = tWhy sg c9.2.2 cd (nI n9) cu ∧ ∃ (z4 z5 : Int32) (rd' : Nat → Int32), gMa D G0 G' a (z0, nI sg.length, z2, nI cu, z4, z5) st pa ty md rd')) := by
  refine gM_intro (by decide) rfl rfl (Nat.le_of_ble_eq_true rfl) ?_
  intro p e s m args below meth c C
  have t8 := hT.1
  refine gx_aload_n C dX9_reason_0 rfl ?_
  refine gx_aload_n C dX9_reason_1 rfl ?_
  refine gx_get C fd_X9_reason_151 (hG := hM.2.1) (hv := by rfl) dX9_reason_2 ?_
  refine gx_put C fd_X9_reason_170 tyX9_ok nmX9 rfl rfl rfl (hG := hM.2.1) (hl := by exact Nat.le_of_ble_eq_true rfl) dX9_reason_5 ?_
  refine gx_obM (z0, nI sg.length, z2, nI cu, nI cu, nI cd.length) hM rfl (fun hM => ?_)
  refine gx_aload_n C dX9_reason_8 rfl ?_
  refine gx_callV (ci := 8) (T := TX9) (N := 11) C (k9_wordHere l D A hs hM hT hcu) cb_X9_reason__X9_wordHere gX9_reason_X9_wordHere rfl (hG := hM.2.1) rfl rfl (Nat.le_of_ble_eq_true rfl) ⟨Nat.le_refl _, Nat.le_refl _⟩ dX9_reason_9 (gx_ki fun r_9 G_9 h_9 => ?_)
  obtain ⟨rfl, hM⟩ := h_9
  refine gx_istore_n C dX9_reason_12 (by decide) ?_
  refine gx_iload_n C dX9_reason_13 rfl ?_
  refine gx_if_ge (tgt := 19) C dX9_reason_14 (by decide) (fun c_14 => ?_) (fun c_14 => ?_)
  · have hkn := Int32.not_lt.mpr c_14
    obtain ⟨k, k6, hk9⟩ := tKind_n hkn
    rw [hk9]
    refine gx_aload_n C dX9_reason_19 rfl ?_
    refine gx_iload_n C dX9_reason_20 rfl ?_
    refine gx_callV (ci := 8) (T := TX9) (N := 11) C (k9_isFormed l D A hs hM hT hcu (by omega) hk9 k6) cb_X9_reason__X9_isFormed gX9_reason_X9_isFormed rfl (hG := hM.2.1) rfl rfl (Nat.le_of_ble_eq_true rfl) ⟨Nat.le_refl _, Nat.le_refl _⟩ dX9_reason_21 (gx_ki fun r_21 G_21 h_21 => ?_)
    obtain ⟨rd2, z42, hM, hq, hres⟩ := h_21
    refine gx_if_ne (tgt := 29) C dX9_reason_24 (by decide) (fun c_24 => ?_) (fun c_24 => ?_)
    · obtain ⟨-, hg, rfl, r0, r1, r2, r3⟩ := hres.resolve_right (fun q => c_24 q.1)
      obtain ⟨x9, y9, w9, hx9, hy9, hw9, e1, e2, e3, b0, h12⟩ := tGood (tyR_C hT) hk9 k6 hg
      have hw := tWhy_3 (ms := c9.2.2) (cd := cd) (tl := nI n9) hkn hg
      rw [hk9, e1, e2] at hw
      have hcode : tCode sg cu = pCode (nI k) (nI x9) (nI y9) (nI w9) := by rw [tCode, hk9, e1, e2, e3]
      refine gx_aload_n C dX9_reason_29 rfl ?_
      refine gx_callV (ci := 8) (T := TX9) (N := 11) C (k9_isInRange l D A hs hM (by omega) r0 (r1.trans e1) (r2.trans e2) h0 k6 hx9 hy9 hn) cb_X9_reason__X9_isInRange gX9_reason_X9_isInRange rfl (hG := hM.2.1) rfl rfl (Nat.le_of_ble_eq_true rfl) ⟨Nat.le_refl _, Nat.le_refl _⟩ dX9_reason_30 (gx_ki fun r_30 G_30 h_30 => ?_)
      obtain ⟨rfl, rfl⟩ := h_30
      refine gx_if_ne (tgt := 38) C dX9_reason_33 (by decide) (fun c_33 => ?_) (fun c_33 => ?_)
      · rw [if_neg c_33] at hw
        obtain ⟨x2, y2, hiok⟩ := iOk_new k6 hx9 hy9 hw9 hn b0 h12 c_33
        rw [← hcode] at hiok
        have hzc : mkR rd2 (4 * cd.length) (tCode sg cu) := by
          rw [hcode]
          exact mkR_new k6 x2 y2 hw9 r0 (r1.trans e1) (r2.trans e2) (r3.trans e3)
        refine gx_aload_n C dX9_reason_38 rfl ?_
        refine gx_iload_n C dX9_reason_39 rfl ?_
        refine gx_callV (ci := 8) (T := TX9) (N := 11) C (k9_isThere l D A hs hM hS hs8 (fun k hk => mkR_cg (hrd k hk) (fun i hi => hq _ (by omega))) hzc h8) cb_X9_reason__X9_isThere gX9_reason_X9_isThere rfl (hG := hM.2.1) rfl rfl (Nat.le_of_ble_eq_true rfl) ⟨Nat.le_refl _, Nat.le_refl _⟩ dX9_reason_40 (gx_ki fun r_40 G_40 h_40 => ?_)
        obtain ⟨rfl, rfl⟩ := h_40
        refine gx_if_eq (tgt := 48) C dX9_reason_43 (by decide) (fun c_43 => ?_) (fun c_43 => ?_)
        · rw [if_neg (gz_if0 c_43)] at hw
          refine gx_aload_n C dX9_reason_48 rfl ?_
          refine gx_iload_n C dX9_reason_49 rfl ?_
          refine gx_iconst (v := nI 2) C dX9_reason_50 (by decide) ?_
          refine gx_callV (ci := 8) (T := TX9) (N := 11) C (k9_of l D A hs hM.2.1 hM.2.2.1 s1 2 (by omega)) cb_X9_reason__X9_of gX9_reason_X9_of rfl (hG := hM.2.1) rfl rfl (Nat.le_of_ble_eq_true rfl) ⟨Nat.le_refl _, Nat.le_refl _⟩ dX9_reason_51 (gx_ki fun r_51 G_51 h_51 => ?_)
          obtain ⟨rfl, rfl⟩ := h_51
          rw [hS.2.2.1]
          refine gx_aload_n C dX9_reason_54 rfl ?_
          refine gx_get C fd_X9_reason_164 (hG := hM.2.1) (hv := by rfl) dX9_reason_55 ?_
          refine gx_iadd C dX9_reason_58 ?_
          first | refine gx_top (nI_add _ _) ?_ | skip
          refine gx_bipush (v := 8) C dX9_reason_59 (by decide) ?_
          refine gx_icmp_ne (tgt := 66) C dX9_reason_61 (by decide) (fun c_61 => ?_) (fun c_61 => ?_)
          · have h88 : ¬ c9.2.2.length + cd.length = 8 := fun q => c_61 (by rw [q]; rfl)
            rw [if_neg (by omega)] at hw
            refine gx_aload_n C dX9_reason_66 rfl ?_
            refine gx_dup C dX9_reason_67 rfl ?_
            refine gx_get C fd_X9_reason_164 (hG := hM.2.1) (hv := by rfl) dX9_reason_68 ?_
            refine gx_iconst (v := nI 1) C dX9_reason_71 (by decide) ?_
            refine gx_iadd C dX9_reason_72 ?_
            first | refine gx_top (nI_add _ _) ?_ | skip
            refine gx_put C fd_X9_reason_164 tyX9_ok nmX9 rfl rfl rfl (hG := hM.2.1) (hl := by exact Nat.le_of_ble_eq_true rfl) dX9_reason_73 ?_
            refine gx_obM (z0, nI sg.length, z2, nI cu, nI ((tP3 sg cu).2 + 1), nI (cd.length + 1)) hM rfl (fun hM => ?_)
            refine gx_iconst (v := 0) C dX9_reason_76 (by decide) ?_
            refine gx_zret (mc := 0) C rfl ?_ dX9_reason_77
            exact ⟨_, rfl, Or.inl ⟨rfl, hw, hiok, rd2, hM, rows_1 hrd hq hzc⟩⟩
          · have h88 : c9.2.2.length + cd.length = 8 := (nI_eq (b := 8) (by omega) (by omega)).mp c_61
            rw [if_pos (by omega)] at hw
            refine gx_iconst (v := 5) C dX9_reason_64 (by decide) ?_
            refine gx_zret (mc := 0) C rfl ?_ dX9_reason_65
            exact ⟨_, rfl, Or.inr ⟨by decide, hw.symm, _, _, _, hM⟩⟩
        · rw [if_pos (gz_if1 c_43)] at hw
          refine gx_iconst (v := 4) C dX9_reason_46 (by decide) ?_
          refine gx_zret (mc := 0) C rfl ?_ dX9_reason_47
          exact ⟨_, rfl, Or.inr ⟨by decide, hw.symm, _, _, _, hM⟩⟩
      · rw [if_pos c_33] at hw
        refine gx_iconst (v := 3) C dX9_reason_36 (by decide) ?_
        refine gx_zret (mc := 0) C rfl ?_ dX9_reason_37
        exact ⟨_, rfl, Or.inr ⟨by decide, hw.symm, _, _, _, hM⟩⟩
    · have hb := (hres.resolve_left (fun q => by rw [q.1] at c_24; exact absurd c_24 (by decide))).2
      have hw := tWhy_2 (ms := c9.2.2) (cd := cd) (tl := nI n9) hkn hb
      refine gx_iconst (v := 2) C dX9_reason_27 (by decide) ?_
      refine gx_zret (mc := 0) C rfl ?_ dX9_reason_28
      exact ⟨_, rfl, Or.inr ⟨by decide, hw.symm, _, _, _, hM⟩⟩
  · have hw := tWhy_1 (ms := c9.2.2) (cd := cd) (tl := nI n9) (Int32.not_le.mp c_14)
    refine gx_iconst (v := 1) C dX9_reason_17 (by decide) ?_
    refine gx_zret (mc := 0) C rfl ?_ dX9_reason_18
    exact ⟨_, rfl, Or.inr ⟨by decide, hw.symm, _, _, _, hM⟩⟩
set_option maxHeartbeats 600000 in
set_option maxRecDepth 100000 in
/-- X9_readsAll -/
theorem k9_readsAll (l : Launch) (D : gD) (A : Nat → Prop) (hs : Nat) {G : gH} {G0 : gH} {a : Nat} {z0 z2 z3 z4 z5 : Int32} {st pa ty md rd : Nat → Int32} {sg : List Int32} (hM : gMa D G0 G a (z0, nI sg.length, z2, z3, z4, z5) st pa ty md rd) (hT : tyR ty sg) {c9 : SH} {n9 s1 : Nat} (hS : shR st (127 + 35 * s1) c9 n9) (hs8 : s1 < 8) (h0 : st 0 = nI n9) (hn : n9 ≤ 100) : gM l yX9_readsAll wsX9_readsAll (gR 5) D A hs 0 0 [.ref a, .int (nI s1)] G (gPi fun x G' => x = (tAll sg c9.2.2 (nI n9) 80 0 []).2.2 ∧ ∃ (z3 z4 z5 : Int32) (rd' : Nat → Int32), gMa D G0 G' a (z0, nI sg.length, z2, z3, z4, z5) st pa ty md rd' ∧ (¬ (tAll sg c9.2.2 (nI n9) 80 0 []).2.2 = 0 → z3 = nI (tAll sg c9.2.2 (nI n9) 80 0 []).1) ∧ ((tAll sg c9.2.2 (nI n9) 80 0 []).2.2 = 0 → z5 = nI (tAll sg c9.2.2 (nI n9) 80 0 []).2.1.length ∧ c9.2.2.length + (tAll sg c9.2.2 (nI n9) 80 0 []).2.1.length ≤ 8 ∧ ∀ k : Nat, k < (tAll sg c9.2.2 (nI n9) 80 0 []).2.1.length → mkR rd' (4 * k) ((tAll sg c9.2.2 (nI n9) 80 0 []).2.1.getD k 0) ∧ iOk ((tAll sg c9.2.2 (nI n9) 80 0 []).2.1.getD k 0) n9)) := by
  refine gM_intro (by decide) rfl rfl (Nat.le_of_ble_eq_true rfl) ?_
  intro p e s m args below meth c C
  have t8 := hT.1
  have hbad : ∀ (y : Int32) (cu : Nat) (cd : List Int32) (G1 : gH) (z4 z5 : Int32) (rd1 : Nat → Int32), ¬ y = 0 → (tAll sg c9.2.2 (nI n9) 80 0 []) = (cu, cd, y) → gMa D G0 G1 a (z0, nI sg.length, z2, nI cu, z4, z5) st pa ty md rd1 → gX p l e (gR 5) s m args below meth c D A 3 hs 0 0 (MQ below (gQ D A hs 0 (gPi fun x G' => x = (tAll sg c9.2.2 (nI n9) 80 0 []).2.2 ∧ ∃ (z3 z4 z5 : Int32) (rd' : Nat → Int32), gMa D G0 G' a (z0, nI sg.length, z2, z3, z4, z5) st pa ty md rd' ∧ (¬ (tAll sg c9.2.2 (nI n9) 80 0 []).2.2 = 0 → z3 = nI (tAll sg c9.2.2 (nI n9) 80 0 []).1) ∧ ((tAll sg c9.2.2 (nI n9) 80 0 []).2.2 = 0 → z5 = nI (tAll sg c9.2.2 (nI n9) 80 0 []).2.1.length ∧ c9.2.2.length + (tAll sg c9.2.2 (nI n9) 80 0 []).2.1.length ≤ 8 ∧ ∀ k : Nat, k < (tAll sg c9.2.2 (nI n9) 80 0 []).2.1.length → mkR rd' (4 * k) ((tAll sg c9.2.2 (nI n9) 80 0 []).2.1.getD k 0) ∧ iOk ((tAll sg c9.2.2 (nI n9) 80 0 []).2.1.getD k 0) n9))) args s 0 0 A) G1 [some (.ref a), some (.int (nI s1)), some (.int y)] 12 [] := by
    intro y cu cd G1 z4 z5 rd1 hy hR9 hM
    refine gx_aload_n C dX9_readsAll_12 rfl ?_
    refine gx_get C fd_X9_readsAll_151 (hG := hM.2.1) (hv := by rfl) dX9_readsAll_13 ?_
    refine gx_aload_n C dX9_readsAll_16 rfl ?_
    refine gx_get C fd_X9_readsAll_101 (hG := hM.2.1) (hv := by rfl) dX9_readsAll_17 ?_
    refine gx_icmp_ge (tgt := 36) C dX9_readsAll_20 (by decide) (fun c_20 => ?_) (fun c_20 => ?_)
    · refine gx_iload_n C dX9_readsAll_36 rfl ?_
      refine gx_zret (mc := 0) C rfl ?_ dX9_readsAll_37
      exact ⟨_, rfl, by rw [hR9], _, _, _, _, hM, fun _ => by rw [hR9], fun q => absurd (by rw [hR9] at q; exact q) hy⟩
    · refine gx_iload_n C dX9_readsAll_23 rfl ?_
      refine gx_if_ne (tgt := 36) C dX9_readsAll_24 (by decide) (fun c_24 => ?_) (fun c_24 => ?_)
      · refine gx_iload_n C dX9_readsAll_36 rfl ?_
        refine gx_zret (mc := 0) C rfl ?_ dX9_readsAll_37
        exact ⟨_, rfl, by rw [hR9], _, _, _, _, hM, fun _ => by rw [hR9], fun q => absurd (by rw [hR9] at q; exact q) hy⟩
      · exact absurd c_24 hy
  have hexit : ∀ (cu : Nat) (cd : List Int32) (G1 : gH) (z3 : Int32) (rd1 : Nat → Int32), (tAll sg c9.2.2 (nI n9) 80 0 []) = (cu, cd, 0) → sg.length ≤ cu → cu ≤ sg.length → gMa D G0 G1 a (z0, nI sg.length, z2, z3, nI cu, nI cd.length) st pa ty md rd1 → c9.2.2.length + cd.length ≤ 8 → (∀ k : Nat, k < cd.length → mkR rd1 (4 * k) (cd.getD k 0) ∧ iOk (cd.getD k 0) n9) → gX p l e (gR 5) s m args below meth c D A 3 hs 0 0 (MQ below (gQ D A hs 0 (gPi fun x G' => x = (tAll sg c9.2.2 (nI n9) 80 0 []).2.2 ∧ ∃ (z3 z4 z5 : Int32) (rd' : Nat → Int32), gMa D G0 G' a (z0, nI sg.length, z2, z3, z4, z5) st pa ty md rd' ∧ (¬ (tAll sg c9.2.2 (nI n9) 80 0 []).2.2 = 0 → z3 = nI (tAll sg c9.2.2 (nI n9) 80 0 []).1) ∧ ((tAll sg c9.2.2 (nI n9) 80 0 []).2.2 = 0 → z5 = nI (tAll sg c9.2.2 (nI n9) 80 0 []).2.1.length ∧ c9.2.2.length + (tAll sg c9.2.2 (nI n9) 80 0 []).2.1.length ≤ 8 ∧ ∀ k : Nat, k < (tAll sg c9.2.2 (nI n9) 80 0 []).2.1.length → mkR rd' (4 * k) ((tAll sg c9.2.2 (nI n9) 80 0 []).2.1.getD k 0) ∧ iOk ((tAll sg c9.2.2 (nI n9) 80 0 []).2.1.getD k 0) n9))) args s 0 0 A) G1 [some (.ref a), some (.int (nI s1)), some (.int 0)] 12 [] := by
    intro cu cd G1 z3 rd1 hR9 hcu hcu2 hM h8 hrows
    refine gx_aload_n C dX9_readsAll_12 rfl ?_
    refine gx_get C fd_X9_readsAll_151 (hG := hM.2.1) (hv := by rfl) dX9_readsAll_13 ?_
    refine gx_aload_n C dX9_readsAll_16 rfl ?_
    refine gx_get C fd_X9_readsAll_101 (hG := hM.2.1) (hv := by rfl) dX9_readsAll_17 ?_
    refine gx_icmp_ge (tgt := 36) C dX9_readsAll_20 (by decide) (fun c_20 => ?_) (fun c_20 => ?_)
    · refine gx_iload_n C dX9_readsAll_36 rfl ?_
      refine gx_zret (mc := 0) C rfl ?_ dX9_readsAll_37
      exact ⟨_, rfl, by rw [hR9], _, _, _, _, hM, fun q => absurd (by rw [hR9]) q, fun _ => by rw [hR9]; exact ⟨rfl, h8, hrows⟩⟩
    · exact absurd (nI_le hcu (by omega)) c_20
  have hloop : ∀ (n cu : Nat) (cd : List Int32) (G1 : gH) (z3 : Int32) (rd1 : Nat → Int32), (tAll sg c9.2.2 (nI n9) 80 0 []) = tAll sg c9.2.2 (nI n9) n cu cd → sg.length ≤ cu + n → cu ≤ sg.length → gMa D G0 G1 a (z0, nI sg.length, z2, z3, nI cu, nI cd.length) st pa ty md rd1 → c9.2.2.length + cd.length ≤ 8 → (∀ k : Nat, k < cd.length → mkR rd1 (4 * k) (cd.getD k 0) ∧ iOk (cd.getD k 0) n9) → gX p l e (gR 5) s m args below meth c D A 3 hs 0 0 (MQ below (gQ D A hs 0 (gPi fun x G' => x = (tAll sg c9.2.2 (nI n9) 80 0 []).2.2 ∧ ∃ (z3 z4 z5 : Int32) (rd' : Nat → Int32), gMa D G0 G' a (z0, nI sg.length, z2, z3, z4, z5) st pa ty md rd' ∧ (¬ (tAll sg c9.2.2 (nI n9) 80 0 []).2.2 = 0 → z3 = nI (tAll sg c9.2.2 (nI n9) 80 0 []).1) ∧ ((tAll sg c9.2.2 (nI n9) 80 0 []).2.2 = 0 → z5 = nI (tAll sg c9.2.2 (nI n9) 80 0 []).2.1.length ∧ c9.2.2.length + (tAll sg c9.2.2 (nI n9) 80 0 []).2.1.length ≤ 8 ∧ ∀ k : Nat, k < (tAll sg c9.2.2 (nI n9) 80 0 []).2.1.length → mkR rd' (4 * k) ((tAll sg c9.2.2 (nI n9) 80 0 []).2.1.getD k 0) ∧ iOk ((tAll sg c9.2.2 (nI n9) 80 0 []).2.1.getD k 0) n9))) args s 0 0 A) G1 [some (.ref a), some (.int (nI s1)), some (.int 0)] 12 [] := by
    intro n
    induction n with
    | zero => intro cu cd G1 z3 rd1 hR9 hn2 hcu hM h8 hrows; exact hexit cu cd G1 z3 rd1 hR9 (by omega) hcu hM h8 hrows
    | succ n ih =>
      intro cu cd G1 z3 rd1 hR9 hn2 hcu hM h8 hrows
      by_cases hlt : cu < sg.length
      · rw [tAll_y hlt] at hR9
        have hle := tP_le hcu
        refine gx_aload_n C dX9_readsAll_12 rfl ?_
        refine gx_get C fd_X9_readsAll_151 (hG := hM.2.1) (hv := by rfl) dX9_readsAll_13 ?_
        refine gx_aload_n C dX9_readsAll_16 rfl ?_
        refine gx_get C fd_X9_readsAll_101 (hG := hM.2.1) (hv := by rfl) dX9_readsAll_17 ?_
        refine gx_icmp_ge (tgt := 36) C dX9_readsAll_20 (by decide) (fun c_20 => ?_) (fun c_20 => ?_)
        · exact absurd c_20 (nI_ge hlt (by omega))
        · refine gx_iload_n C dX9_readsAll_23 rfl ?_
          refine gx_if_ne (tgt := 36) C dX9_readsAll_24 (by decide) (fun c_24 => ?_) (fun c_24 => ?_)
          · exact absurd rfl c_24
          · refine gx_aload_n C dX9_readsAll_27 rfl ?_
            refine gx_iload_n C dX9_readsAll_28 rfl ?_
            refine gx_callV (ci := 8) (T := TX9) (N := 11) C (k9_reason l D A hs hM hT hcu hS hs8 h0 hn (fun k hk => (hrows k hk).1) h8) cb_X9_readsAll__X9_reason gX9_readsAll_X9_reason rfl (hG := hM.2.1) rfl rfl (Nat.le_of_ble_eq_true rfl) ⟨Nat.le_refl _, Nat.le_refl _⟩ dX9_readsAll_29 (gx_ki fun r_29 G_29 h_29 => ?_)
            refine gx_istore_n C dX9_readsAll_32 (by decide) ?_
            refine gx_goto (tgt := 12) C dX9_readsAll_33 (by decide) ?_
            rcases h_29 with ⟨rfl, hw, hiok, rd2, hM, hr2⟩ | ⟨hx, hw, z4, z5, rd2, hM⟩
            · rw [if_pos hw] at hR9
              have h59 : sg.getD (tP3 sg cu).2 0 = 59 := Decidable.not_not.mp (fun q => tWhy_z hw (Or.inr (Or.inr (Or.inr q))))
              have hl59 := gD_lt (sg := sg) (j := (tP3 sg cu).2) (by rw [h59]; decide)
              have h88 : c9.2.2.length + (cd ++ [tCode sg cu]).length ≤ 8 := by
                rw [len_1]
                rcases Nat.lt_or_ge (c9.2.2.length + cd.length) 8 with q | q
                · omega
                · exfalso
                  have hkn : ¬ tKind sg cu < 0 := fun y => by rw [tWhy_1 y] at hw; exact absurd hw (by decide)
                  rw [tWhy_3 hkn (tWhy_z hw)] at hw
                  split at hw
                  · exact absurd hw (by decide)
                  · split at hw
                    · exact absurd hw (by decide)
                    · first
                      | exact absurd hw (by decide)
                      | (rw [if_pos q] at hw; exact absurd hw (by decide))
              refine ih ((tP3 sg cu).2 + 1) (cd ++ [tCode sg cu]) _ _ rd2 hR9 (by omega) (by omega) (by rw [len_1]; exact hM) h88 (fun k hk => ⟨hr2 k hk, ?_⟩)
              rw [len_1] at hk
              by_cases q : k < cd.length
              · rw [gDa_l q]
                exact (hrows k q).2
              · obtain rfl : k = cd.length := by omega
                rw [gDa_r]
                exact hiok
            · rw [if_neg (fun q => hx (hw.trans q)), ← hw] at hR9
              exact hbad _ cu cd _ z4 z5 rd2 hx hR9 hM
      · rw [tAll_n hlt] at hR9
        exact hexit cu cd G1 z3 rd1 hR9 (by omega) hcu hM h8 hrows
  refine gx_aload_n C dX9_readsAll_0 rfl ?_
  refine gx_iconst (v := nI 0) C dX9_readsAll_1 (by decide) ?_
  refine gx_put C fd_X9_readsAll_151 tyX9_ok nmX9 rfl rfl rfl (hG := hM.2.1) (hl := by exact Nat.le_of_ble_eq_true rfl) dX9_readsAll_2 ?_
  refine gx_obM (z0, nI sg.length, z2, z3, nI 0, z5) hM rfl (fun hM => ?_)
  refine gx_aload_n C dX9_readsAll_5 rfl ?_
  refine gx_iconst (v := nI 0) C dX9_readsAll_6 (by decide) ?_
  refine gx_put C fd_X9_readsAll_164 tyX9_ok nmX9 rfl rfl rfl (hG := hM.2.1) (hl := by exact Nat.le_of_ble_eq_true rfl) dX9_readsAll_7 ?_
  refine gx_obM (z0, nI sg.length, z2, z3, nI 0, nI 0) hM rfl (fun hM => ?_)
  refine gx_iconst (v := 0) C dX9_readsAll_10 (by decide) ?_
  refine gx_istore_n C dX9_readsAll_11 (by decide) ?_
  exact hloop 80 0 [] _ _ _ rfl (by omega) (Nat.zero_le _) hM hS.2.2.2.1 (fun k hk => absurd hk (Nat.not_lt_zero _))
