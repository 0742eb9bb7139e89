/-! THE MODEL: merge -/
theorem pTake_le {li : ML} {z w : Int32} : (pTake li z w).1.length ≤ li.1.length + 1 := by
  unfold pTake
  by_cases h : z ∈ li.1
  · rw [if_pos h]
    exact Nat.le_succ _
  · rw [if_neg h]
    show (lapp 64 li.1 z).length ≤ _
    unfold lapp
    split
    · rw [len_1]
      exact Nat.le_refl _
    · exact Nat.le_succ _
theorem pMg_le {ms : List Int32} {r : Int32} {li : ML} : ∀ k : Nat, (pMg ms r li k).1.length ≤ li.1.length + k := by
  intro k
  induction k with
  | zero => exact Nat.le_refl _
  | succ k ih =>
    have := @pTake_le (pMg ms r li k) (ms.getD k 0) r
    show (pTake _ _ _).1.length ≤ _
    omega
theorem sAp_take {li : ML} {z w : Int32} (h : sAp li) (h1 : li.1.length ≤ 64) (h2 : li.2.1.length = li.1.length) (hlt : ¬ z ∈ li.1 → li.1.length < 64) : sAp (pTake li z w) := by
  unfold pTake
  by_cases hz : z ∈ li.1
  · rw [if_pos hz]
    exact h
  · rw [if_neg hz, lapp_lt (hlt hz), lapp_lt (by have := hlt hz; omega)]
    intro i j hi0 hj0 hx0 hy0
    have hi : i < (li.1 ++ [z]).length := hi0
    have hj : j < (li.1 ++ [z]).length := hj0
    have hx : (li.2.1 ++ [(0 : Int32)]).getD i 0 = 1 := hx0
    have hy : (li.2.1 ++ [(0 : Int32)]).getD j 0 = 1 := hy0
    show pOpp ((li.1 ++ [z]).getD i 0) ((li.1 ++ [z]).getD j 0) = 0
    rw [len_1] at hi hj
    have d1 : (li.2.1 ++ [(0 : Int32)]).getD li.1.length 0 = 0 := by rw [← h2]; exact gDa_r
    by_cases qi : i < li.1.length
    · by_cases qj : j < li.1.length
      · rw [gDa_l (by omega)] at hx hy
        rw [gDa_l qi, gDa_l qj]
        exact h i j qi qj hx hy
      · have e : j = li.1.length := by omega
        rw [e, d1] at hy
        exact absurd hy (by decide)
    · have e : i = li.1.length := by omega
      rw [e, d1] at hx
      exact absurd hx (by decide)
theorem pShN_lt {x : List SH} {k : Int32} {j : Nat} (h : ¬ (x.getD j shD).2.1 = k) : ∀ n : Nat, j < n → pShN x k n + 1 ≤ n := by
  intro n
  have le : ∀ m : Nat, pShN x k m ≤ m := fun m => by
    have := List.countP_le_length (p := fun i => decide ((x.getD i shD).2.1 = k)) (l := List.range m)
    rw [List.length_range] at this
    exact this
  induction n with
  | zero => intro q; omega
  | succ n ih =>
    intro hj
    have e : pShN x k (n + 1) = pShN x k n + (if (x.getD n shD).2.1 = k then 1 else 0) := by
      by_cases q : (x.getD n shD).2.1 = k
      · rw [if_pos q]
        exact (pC_s (f := fun i => decide ((x.getD i shD).2.1 = k)) (n := n) (decide_eq_true q)).symm
      · rw [if_neg q]
        exact (pC_n (f := fun i => decide ((x.getD i shD).2.1 = k)) (n := n) (by simpa using q)).symm
    by_cases q : j = n
    · subst q
      rw [if_neg h] at e
      have := le j
      omega
    · have := ih (by omega)
      rw [e]
      split <;> omega
theorem pShN_set {x : List SH} {c : SH} {k : Int32} {j : Nat} (hj : j < x.length) (h : ¬ (x.getD j shD).2.1 = k) (hc : c.2.1 = k) : ∀ n : Nat, j < n → pShN x k n + 1 ≤ pShN (x.set j c) k n := by
  intro n
  have st : ∀ (y : List SH) (m : Nat), pShN y k (m + 1) = pShN y k m + (if (y.getD m shD).2.1 = k then 1 else 0) := fun y m => by
    by_cases q : (y.getD m shD).2.1 = k
    · rw [if_pos q]
      exact (pC_s (f := fun i => decide ((y.getD i shD).2.1 = k)) (n := m) (decide_eq_true q)).symm
    · rw [if_neg q]
      exact (pC_n (f := fun i => decide ((y.getD i shD).2.1 = k)) (n := m) (by simpa using q)).symm
  induction n with
  | zero => intro q; omega
  | succ n ih =>
    intro hn
    rw [st, st]
    by_cases q : j = n
    · subst q
      rw [if_neg h, gSs_eq hj, if_pos hc]
      have := @pShN_le x (x.set j c) k j (fun i hi hq => by rw [gSs_ne (by omega)]; exact hq)
      omega
    · have := ih (by omega)
      rw [gSs_ne q]
      split <;> omega
theorem sR_mg {st f : Nat → Int32} {t : TS} {j r : Nat} (h : sR st t.1) (hj : j < t.1.2.2.1.length) (h1 : (oShj t j).2.1 = 1) (hr : r < 6) (hsr : (oShj t j).1 = nI r) (hL : sLi f (pMg (oShj t j).2.2 (nI r) t.1.2.2.2.1 (oShj t j).2.2.length) t.1.1.length) (hA : sAp (pMg (oShj t j).2.2 (nI r) t.1.2.2.2.1 (oShj t j).2.2.length)) (e1 : f (127 + 35 * j + 1) = 3) (e2 : f 5 = st 5 + nI (oMgU t j)) (e3 : f (9 + 3 * r + 2) = st (9 + 3 * r + 2) + nI (oShj t j).2.2.length)
    (e : ∀ q : Nat, q < 407 → q ≠ 3 → q ≠ 5 → q ≠ 9 + 3 * r + 2 → q ≠ 127 + 35 * j + 1 → f q = st q) : sR f (oMg t j) := by
  have hs := sR_stat (f := upd st (127 + 35 * j + 1) (nI 3)) (k := 3) h hj (by decide) (fun _ => rfl) pk_us (fun q _ hq => pk_un hq)
  obtain ⟨g0, g1, g2, g3, g4, g5, g6⟩ := h
  have m8 : (oShj t j).2.2.length ≤ 8 := (g2.2.2 j hj).2.2.2.1
  have l2 := g2.2.1
  have k1 := g4.2.2.2.2.1 1 (by decide)
  have k2 := (g4.2.2.2.2.2 r hr).2.2
  unfold oMg
  rw [hsr]
  refine ⟨sTx_cg g0 (fun q hq hb => e q (by omega) (by omega) (by omega) (by omega) (by omega)), by rw [e 1 (by omega) (by omega) (by omega) (by omega) (by omega)]; exact g1, ?_, hL, ?_, hA, ?_⟩
  · have s9 : sSh f (t.1.2.2.1.set j ((t.1.2.2.1.getD j shD).1, nI 3, (t.1.2.2.1.getD j shD).2.2)) t.1.1.length := sSh_cg hs.2.2.1 (Nat.le_refl _) (fun q hq hb => by
      by_cases y : q = 127 + 35 * j + 1
      · rw [y, pk_us, e1]
        rfl
      · rw [pk_un y]
        exact e q (by omega) (by omega) (by omega) (by omega) y)
    rw [show ((nI r, 3, (oShj t j).2.2) : SH) = ((t.1.2.2.1.getD j shD).1, nI 3, (t.1.2.2.1.getD j shD).2.2) from by rw [← hsr]; rfl]
    exact s9
  · have a1 := sAc_0 (f := upd st 5 (st 5 + nI (oMgU t j))) (k := 1) (y := nI (oMgU t j)) g4 (by decide) (by rw [← k1]; exact pk_us) (fun q hq hd => pk_un (by omega))
    exact sAc_3 (k := r) (y := nI (oShj t j).2.2.length) a1 hr (by rw [e3, k2]) (fun q hq hd => by
      by_cases y : q = 5
      · rw [y, pk_us, e2]
      · rw [pk_un y]
        exact e q (by omega) (by omega) y hd (by omega))
  · show (pMg _ _ _ _).1.length ≤ 8 * pShN (t.1.2.2.1.set j _) 3 (t.1.2.2.1.set j _).length
    rw [List.length_set]
    have q1 := @pMg_le (oShj t j).2.2 (nI r) t.1.2.2.2.1 (oShj t j).2.2.length
    have q2 := pShN_set (x := t.1.2.2.1) (c := (nI r, 3, (oShj t j).2.2)) (k := 3) hj (by rw [show (t.1.2.2.1.getD j shD).2.1 = 1 from h1]; decide) rfl t.1.2.2.1.length hj
    have q3 : t.1.2.2.2.1.1.length ≤ 8 * pShN t.1.2.2.1 3 t.1.2.2.1.length := g6
    omega
theorem cb_X9_merge__X9_of : gCb yX9_of cX9_of 3 (some .int) wsX9_of (gR 0) (gR 3) 0 0 2 := ⟨rfl, rfl, rfl, by decide +kernel, by decide⟩
set_option maxRecDepth 20000 in
theorem in_X9_merge_X9 : ∀ w ∈ wsX90, w ∈ wsX9_merge := by decide +kernel
set_option maxRecDepth 20000 in
theorem fd_X9_merge_7 : gFd wsX9_merge RX9 7 8 RX9 TX9 11 0 := ⟨in_X9_merge_X9, rfl, by decide, by decide +kernel⟩
theorem cb_X9_merge__X9_sheetAt : gCb yX9_sheetAt cX9_sheetAt 1 (some .int) wsX9_sheetAt (gR 0) (gR 3) 0 0 1 := ⟨rfl, rfl, rfl, by decide +kernel, by decide⟩
theorem cb_X9_merge__X9_markOf : gCb yX9_markOf cX9_markOf 2 (some .int) wsX9_markOf (gR 0) (gR 3) 0 0 2 := ⟨rfl, rfl, rfl, by decide +kernel, by decide⟩
theorem cb_X9_merge__X9_comes : gCb yX9_comes cX9_comes 6 (some .boolean) wsX9_comes (gR 2) (gR 3) 0 0 2 := ⟨rfl, rfl, rfl, by decide +kernel, by decide⟩
theorem cb_X9_merge__X9_isSheet : gCb yX9_isSheet cX9_isSheet 2 (some .boolean) wsX9_isSheet (gR 1) (gR 3) 0 0 1 := ⟨rfl, rfl, rfl, by decide +kernel, by decide⟩
theorem cb_X9_merge__X9_records : gCb yX9_records cX9_records 2 none wsX9_records (gR 0) (gR 3) 0 0 0 := ⟨rfl, rfl, rfl, by decide +kernel, by decide⟩
set_option maxHeartbeats 600000 in
set_option maxRecDepth 100000 in
/-- X9_merge -/
theorem k9_merge (l : Launch) (D : gD) (A : Nat → Prop) (hs : Nat) {G : gH} {G0 : gH} {a : Nat} {t : TS} (h : gMw D G0 G a t) (i : Int32) : gM l yX9_merge wsX9_merge (gR 3) D A hs 0 0 [.ref a, .int i] G (gPi fun x G' => x = (oMerge i t).1 ∧ gMw D G0 G' a (oMerge i t).2) := by
  refine gM_intro (by decide) rfl rfl (Nat.le_of_ble_eq_true rfl) ?_
  intro p e s m args below meth c C
  obtain ⟨st, pa, ty, md, rd, w, hM, hR, hH, hT⟩ := h
  have h4 := hH.1
  have ht := hT.1
  have l1 := hR.1.2.1
  have l2 := hR.2.2.1.2.1
  have hone : ∀ (j0 r : Nat) (pa2 : Nat → Int32) (G1 : gH), j0 < t.1.2.2.1.length → (oShj t j0).2.1 = 1 → r < 6 → (oShj t j0).1 = nI r → hiR pa2 (pRec t.2.1 t.1) → gMa D G0 G1 a (nI (pRec t.2.1 t.1).length, nI t.2.2.length, w) st pa2 ty md rd → gX p l e (gR 3) s m args below meth c D A 5 hs 0 0 (MQ below (gQ D A hs 0 (gPi fun x G' => x = (oMerge (nI j0) t).1 ∧ gMw D G0 G' a (oMerge (nI j0) t).2)) args s 0 0 A) G1 [some (.ref a), some (.int (nI j0)), some (.int (nI r)), some (.int (nI 0)), some (.int (nI 0))] 39 [] := by
    intro j0 r pa2 G1 hjs h1 hr hsr hH hM1
    have sj := hR.2.2.1.2.2 j0 hjs
    have m8 : (oShj t j0).2.2.length ≤ 8 := sj.2.2.2.1
    have o1 : oIx (nI j0) t.1.2.2.1.length = some j0 := oIx_in hjs (by omega)
    have l56 : t.1.2.2.2.1.1.length ≤ 56 := by
      have q2 := pShN_lt (x := t.1.2.2.1) (k := 3) (j := j0) (by rw [show (t.1.2.2.1.getD j0 shD).2.1 = 1 from h1]; decide) t.1.2.2.1.length hjs
      have q3 : t.1.2.2.2.1.1.length ≤ 8 * pShN t.1.2.2.1 3 t.1.2.2.1.length := hR.2.2.2.2.2.2
      omega
    have hloop : ∀ (n j : Nat) (G1 : gH) (f : Nat → Int32), (oShj t j0).2.2.length < j + n → j ≤ (oShj t j0).2.2.length → gMa D G0 G1 a (nI (pRec t.2.1 t.1).length, nI t.2.2.length, w) f pa2 ty md rd ∧ sLi f (pMg (oShj t j0).2.2 (nI r) t.1.2.2.2.1 j) t.1.1.length ∧ sAp (pMg (oShj t j0).2.2 (nI r) t.1.2.2.2.1 j) ∧ (∀ q : Nat, q < 407 → q ≠ 3 → f q = st q) → gX p l e (gR 3) s m args below meth c D A 5 hs 0 0 (MQ below (gQ D A hs 0 (gPi fun x G' => x = (oMerge (nI j0) t).1 ∧ gMw D G0 G' a (oMerge (nI j0) t).2)) args s 0 0 A) G1 [some (.ref a), some (.int (nI j0)), some (.int (nI r)), some (.int (nI (pMgU (oShj t j0).2.2 (nI r) t.1.2.2.2.1 j))), some (.int (nI j))] 39 [] := by
      intro n
      induction n with
      | zero => intro j G1 f hm hj0 hI; exact absurd hm (by omega)
      | succ n ih =>
        intro j G1 f hm hj0 hI
        have hM := hI.1
        have hf := hI.2.2.2
        refine gx_iload C dX9_merge_39 rfl ?_
        refine gx_aload_n C dX9_merge_41 rfl ?_
        refine gx_iload_n C dX9_merge_42 rfl ?_
        refine gx_iconst (v := nI 2) C dX9_merge_43 (by decide) ?_
        refine gx_callV (ci := 8) (T := TX9) (N := 11) C (k9_of l D A hs hM.2.1 hM.2.2.1 j0 2 (by omega)) cb_X9_merge__X9_of gX9_merge_X9_of rfl (hG := hM.2.1) rfl rfl (Nat.le_of_ble_eq_true rfl) ⟨Nat.le_refl _, Nat.le_refl _⟩ dX9_merge_44 (gx_ki fun r_44 G_44 h_44 => ?_)
        obtain ⟨rfl, rfl⟩ := h_44
        rw [hf _ (by omega) (by omega), show st (127 + 35 * j0 + 2) = nI (oShj t j0).2.2.length from sj.2.2.1]
        refine gx_icmp_ge (tgt := 78) C dX9_merge_47 (by decide) (fun c_47 => ?_) (fun c_47 => ?_)
        · have hj : ¬ j < (oShj t j0).2.2.length := fun q => nI_ge q (by omega) c_47
          have j8 : j = (oShj t j0).2.2.length := by omega
          subst j8
          refine gx_aload_n C dX9_merge_78 rfl ?_
          refine gx_get C fd_X9_merge_7 (hG := hM.2.1) (hv := by rfl) dX9_merge_79 ?_
          refine gx_iload_n C dX9_merge_82 rfl ?_
          refine gx_callS C (k9_sheetAt l D A hs j0) cb_X9_merge__X9_sheetAt gX9_merge_X9_sheetAt rfl rfl (Nat.le_of_ble_eq_true rfl) ⟨Nat.le_refl _, Nat.le_refl _⟩ dX9_merge_83 (gx_ki fun r_83 G_83 h_83 => ?_)
          obtain ⟨rfl, rfl⟩ := h_83
          refine gx_iconst (v := nI 1) C dX9_merge_86 (by decide) ?_
          refine gx_iadd C dX9_merge_87 ?_
          first | refine gx_top (nI_add _ _) ?_ | skip
          refine gx_iconst (v := 3) C dX9_merge_88 (by decide) ?_
          refine gx_iastN C (hG := (by first | exact hM.2.2.1 | exact hM.2.2.2.1 | exact hM.2.2.2.2.1 | exact hM.2.2.2.2.2.1 | exact hM.2.2.2.2.2.2)) (hk := by omega) (hn := by omega) dX9_merge_89 ?_
          refine gx_stM hM (fun hM => ?_)
          refine gx_aload_n C dX9_merge_90 rfl ?_
          refine gx_get C fd_X9_merge_7 (hG := hM.2.1) (hv := by rfl) dX9_merge_91 ?_
          refine gx_iconst (v := nI 5) C dX9_merge_94 (by decide) ?_
          refine gx_dup2 C dX9_merge_95 rfl rfl ?_
          refine gx_ialdN C (hG := (by first | exact hM.2.2.1 | exact hM.2.2.2.1 | exact hM.2.2.2.2.1 | exact hM.2.2.2.2.2.1 | exact hM.2.2.2.2.2.2)) (hk := by omega) (hn := by omega) dX9_merge_96 ?_
          rw [pk_un (by omega), hf 5 (by omega) (by omega)]
          refine gx_iload_n C dX9_merge_97 rfl ?_
          refine gx_iadd C dX9_merge_98 ?_
          first | refine gx_top (nI_add _ _) ?_ | skip
          refine gx_iastN C (hG := (by first | exact hM.2.2.1 | exact hM.2.2.2.1 | exact hM.2.2.2.2.1 | exact hM.2.2.2.2.2.1 | exact hM.2.2.2.2.2.2)) (hk := by omega) (hn := by omega) dX9_merge_99 ?_
          refine gx_stM hM (fun hM => ?_)
          refine gx_aload_n C dX9_merge_100 rfl ?_
          refine gx_get C fd_X9_merge_7 (hG := hM.2.1) (hv := by rfl) dX9_merge_101 ?_
          refine gx_bipush (v := nI 9) C dX9_merge_104 (by decide) ?_
          refine gx_iconst (v := nI 3) C dX9_merge_106 (by decide) ?_
          refine gx_iload_n C dX9_merge_107 rfl ?_
          refine gx_imul C dX9_merge_108 ?_
          first | refine gx_top (pk_mul _ _) ?_ | skip
          refine gx_iadd C dX9_merge_109 ?_
          first | refine gx_top (nI_add _ _) ?_ | skip
          refine gx_iconst (v := nI 2) C dX9_merge_110 (by decide) ?_
          refine gx_iadd C dX9_merge_111 ?_
          first | refine gx_top (nI_add _ _) ?_ | skip
          refine gx_dup2 C dX9_merge_112 rfl rfl ?_
          refine gx_ialdN C (hG := (by first | exact hM.2.2.1 | exact hM.2.2.2.1 | exact hM.2.2.2.2.1 | exact hM.2.2.2.2.2.1 | exact hM.2.2.2.2.2.2)) (hk := by omega) (hn := by omega) dX9_merge_113 ?_
          rw [pk_un (by omega), pk_un (by omega), hf _ (by omega) (by omega)]
          refine gx_aload_n C dX9_merge_114 rfl ?_
          refine gx_iload_n C dX9_merge_115 rfl ?_
          refine gx_iconst (v := nI 2) C dX9_merge_116 (by decide) ?_
          refine gx_callV (ci := 8) (T := TX9) (N := 11) C (k9_of l D A hs hM.2.1 hM.2.2.1 j0 2 (by omega)) cb_X9_merge__X9_of gX9_merge_X9_of rfl (hG := hM.2.1) rfl rfl (Nat.le_of_ble_eq_true rfl) ⟨Nat.le_refl _, Nat.le_refl _⟩ dX9_merge_117 (gx_ki fun r_117 G_117 h_117 => ?_)
          obtain ⟨rfl, rfl⟩ := h_117
          rw [pk_un (by omega), pk_un (by omega), hf _ (by omega) (by omega), show st (127 + 35 * j0 + 2) = nI (oShj t j0).2.2.length from sj.2.2.1]
          refine gx_iadd C dX9_merge_120 ?_
          first | refine gx_top (nI_add _ _) ?_ | skip
          refine gx_iastN C (hG := (by first | exact hM.2.2.1 | exact hM.2.2.2.1 | exact hM.2.2.2.2.1 | exact hM.2.2.2.2.2.1 | exact hM.2.2.2.2.2.2)) (hk := by omega) (hn := by omega) dX9_merge_121 ?_
          refine gx_stM hM (fun hM => ?_)
          refine gx_iload_n C dX9_merge_122 rfl ?_
          refine gx_zret (mc := 0) C rfl ?_ dX9_merge_123
          have eU : oMgU t j0 = (pMgU (oShj t j0).2.2 (nI r) t.1.2.2.2.1 (oShj t j0).2.2.length) := by unfold oMgU; rw [hsr]
          have e : oMerge (nI j0) t = (nI (oMgU t j0), (oMg t j0, pRec t.2.1 t.1, t.2.2)) := by
            unfold oMerge
            rw [o1]
            exact if_pos h1
          refine ⟨_, rfl, by rw [e, eU], ?_⟩
          rw [e]
          refine ⟨_, _, ty, md, rd, w, hM, sR_mg hR hjs h1 hr hsr (sLi_cg hI.2.1 (Nat.le_refl _) (fun q hq hb => ?_)) hI.2.2.1 ?_ ?_ pk_us ?_, hH, hT⟩
          · rw [pk_un (by omega), pk_un (by omega), pk_un (by omega)]
          · rw [pk_un (by omega), pk_un (by omega)]
            exact pk_us
          · rw [pk_un (by omega), pk_us, eU]
          · intro q k1 k2 k3 k4 k5
            rw [pk_un k4, pk_un k3, pk_un k5]
            exact hf q k1 k2
        · have hj : j < (oShj t j0).2.2.length := by
            rcases Nat.lt_or_ge (j) ((oShj t j0).2.2.length) with q | q
            · exact q
            · exact absurd (nI_le q (by omega)) c_47
          have mj := sj.2.2.2.2.2.2 j hj
          have hlt9 : ¬ (oShj t j0).2.2.getD j 0 ∈ (pMg (oShj t j0).2.2 (nI r) t.1.2.2.2.1 j).1 → (pMg (oShj t j0).2.2 (nI r) t.1.2.2.2.1 j).1.length < 64 := fun _ => by
            have := @pMg_le (oShj t j0).2.2 (nI r) t.1.2.2.2.1 j
            omega
          refine gx_iload_n C dX9_merge_50 rfl ?_
          refine gx_aload_n C dX9_merge_51 rfl ?_
          refine gx_iload_n C dX9_merge_52 rfl ?_
          refine gx_iload C dX9_merge_53 rfl ?_
          refine gx_callS C (k9_markOf l D A hs j0 j) cb_X9_merge__X9_markOf gX9_merge_X9_markOf rfl rfl (Nat.le_of_ble_eq_true rfl) ⟨Nat.le_refl _, Nat.le_refl _⟩ dX9_merge_55 (gx_ki fun r_55 G_55 h_55 => ?_)
          obtain ⟨rfl, rfl⟩ := h_55
          refine gx_iload_n C dX9_merge_58 rfl ?_
          refine gx_callV (ci := 8) (T := TX9) (N := 11) C (k9_comes l D A hs hM hI.2.1 (mkR_cg mj.1 (fun i hi => hf _ (by omega) (by omega))) (by omega) mj.2 hr hlt9) cb_X9_merge__X9_comes gX9_merge_X9_comes rfl (hG := hM.2.1) rfl rfl (Nat.le_of_ble_eq_true rfl) ⟨Nat.le_refl _, Nat.le_refl _⟩ dX9_merge_59 (gx_ki fun r_59 G_59 h_59 => ?_)
          obtain ⟨rfl, f2, hM2, hL2, hf2⟩ := h_59
          refine gx_if_eq (tgt := 69) C dX9_merge_62 (by decide) (fun c_62 => ?_) (fun c_62 => ?_)
          · have hx : (pMgU (oShj t j0).2.2 (nI r) t.1.2.2.2.1 (j + 1)) = (pMgU (oShj t j0).2.2 (nI r) t.1.2.2.2.1 j) + 0 := by
              show (pMgU (oShj t j0).2.2 (nI r) t.1.2.2.2.1 j) + _ = _
              rw [if_neg (show ¬ (oShj t j0).2.2.getD j 0 ∈ (pMg (oShj t j0).2.2 (nI r) t.1.2.2.2.1 j).1 from gz_if0 c_62)]
            refine gx_iconst (v := nI 0) C dX9_merge_69 (by decide) ?_
            refine gx_iadd C dX9_merge_70 ?_
            first | refine gx_top (nI_add _ _) ?_ | skip
            refine gx_istore_n C dX9_merge_71 (by decide) ?_
            first | refine gx_iincN C dX9_merge_72 rfl (by decide) ?_ | refine gx_iinc1 C dX9_merge_72 rfl (by decide) ?_
            refine gx_goto (tgt := 39) C dX9_merge_75 (by decide) ?_
            refine gx_V ?_ (ih (j + 1) _ f2 (by omega) (by omega) ⟨hM2, hL2, sAp_take hI.2.2.1 hI.2.1.2.1 hI.2.1.2.2.1 hlt9, fun q k1 k2 => (hf2 q k1 k2).trans (hf q k1 k2)⟩)
            rw [hx]
            rfl
          · have hx : (pMgU (oShj t j0).2.2 (nI r) t.1.2.2.2.1 (j + 1)) = (pMgU (oShj t j0).2.2 (nI r) t.1.2.2.2.1 j) + 1 := by
              show (pMgU (oShj t j0).2.2 (nI r) t.1.2.2.2.1 j) + _ = _
              rw [if_pos (show (oShj t j0).2.2.getD j 0 ∈ (pMg (oShj t j0).2.2 (nI r) t.1.2.2.2.1 j).1 from gz_if1 c_62)]
            refine gx_iconst (v := nI 1) C dX9_merge_65 (by decide) ?_
            refine gx_goto (tgt := 70) C dX9_merge_66 (by decide) ?_
            refine gx_iadd C dX9_merge_70 ?_
            first | refine gx_top (nI_add _ _) ?_ | skip
            refine gx_istore_n C dX9_merge_71 (by decide) ?_
            first | refine gx_iincN C dX9_merge_72 rfl (by decide) ?_ | refine gx_iinc1 C dX9_merge_72 rfl (by decide) ?_
            refine gx_goto (tgt := 39) C dX9_merge_75 (by decide) ?_
            refine gx_V ?_ (ih (j + 1) _ f2 (by omega) (by omega) ⟨hM2, hL2, sAp_take hI.2.2.1 hI.2.1.2.1 hI.2.1.2.2.1 hlt9, fun q k1 k2 => (hf2 q k1 k2).trans (hf q k1 k2)⟩)
            rw [hx]
            rfl
    exact hloop ((oShj t j0).2.2.length + 1) 0 G1 st (by omega) (by omega) ⟨hM1, hR.2.2.2.1, hR.2.2.2.2.2.1, fun _ _ _ => rfl⟩
  refine gx_aload_n C dX9_merge_0 rfl ?_
  refine gx_iload_n C dX9_merge_1 rfl ?_
  refine gx_callV (ci := 8) (T := TX9) (N := 11) C (k9_isSheet l D A hs hM.2.1 hM.2.2.1 hR i) cb_X9_merge__X9_isSheet gX9_merge_X9_isSheet rfl (hG := hM.2.1) rfl rfl (Nat.le_of_ble_eq_true rfl) ⟨Nat.le_refl _, Nat.le_refl _⟩ dX9_merge_2 (gx_ki fun r_2 G_2 h_2 => ?_)
  obtain ⟨rfl, rfl⟩ := h_2
  refine gx_if_ne (tgt := 10) C dX9_merge_5 (by decide) (fun c_5 => ?_) (fun c_5 => ?_)
  · have hi := gz_if1 c_5
    obtain ⟨j, hj, rfl⟩ := gIn_ex hi (by omega)
    have sj := hR.2.2.1.2.2 j hj
    have o1 : oIx (nI j) t.1.2.2.1.length = some j := oIx_in hj (by omega)
    obtain ⟨r, hr, hsr⟩ := sj.2.2.2.2.1
    refine gx_aload_n C dX9_merge_10 rfl ?_
    refine gx_iload_n C dX9_merge_11 rfl ?_
    refine gx_iconst (v := nI 1) C dX9_merge_12 (by decide) ?_
    refine gx_callV (ci := 8) (T := TX9) (N := 11) C (k9_of l D A hs hM.2.1 hM.2.2.1 j 1 (by omega)) cb_X9_merge__X9_of gX9_merge_X9_of rfl (hG := hM.2.1) rfl rfl (Nat.le_of_ble_eq_true rfl) ⟨Nat.le_refl _, Nat.le_refl _⟩ dX9_merge_13 (gx_ki fun r_13 G_13 h_13 => ?_)
    obtain ⟨rfl, rfl⟩ := h_13
    rw [sj.2.1]
    refine gx_iconst (v := 1) C dX9_merge_16 (by decide) ?_
    refine gx_icmp_eq (tgt := 23) C dX9_merge_17 (by decide) (fun c_17 => ?_) (fun c_17 => ?_)
    · refine gx_aload_n C dX9_merge_23 rfl ?_
      refine gx_callV (ci := 8) (T := TX9) (N := 11) C (k9_records l D A hs hM hH hR) cb_X9_merge__X9_records gX9_merge_X9_records rfl (hG := hM.2.1) rfl rfl (Nat.le_of_ble_eq_true rfl) ⟨Nat.le_refl _, Nat.le_refl _⟩ dX9_merge_24 (gx_kv fun G_24 h_24 => ?_)
      have hH0 := hH
      obtain ⟨pa2, hM, hH⟩ := h_24
      refine gx_aload_n C dX9_merge_27 rfl ?_
      refine gx_iload_n C dX9_merge_28 rfl ?_
      refine gx_iconst (v := nI 0) C dX9_merge_29 (by decide) ?_
      refine gx_callV (ci := 8) (T := TX9) (N := 11) C (k9_of l D A hs hM.2.1 hM.2.2.1 j 0 (by omega)) cb_X9_merge__X9_of gX9_merge_X9_of rfl (hG := hM.2.1) rfl rfl (Nat.le_of_ble_eq_true rfl) ⟨Nat.le_refl _, Nat.le_refl _⟩ dX9_merge_30 (gx_ki fun r_30 G_30 h_30 => ?_)
      obtain ⟨rfl, rfl⟩ := h_30
      rw [show st (127 + 35 * j + 0) = nI r from sj.1.trans hsr]
      refine gx_istore_n C dX9_merge_33 (by decide) ?_
      refine gx_iconst (v := nI 0) C dX9_merge_34 (by decide) ?_
      refine gx_istore_n C dX9_merge_35 (by decide) ?_
      refine gx_iconst (v := nI 0) C dX9_merge_36 (by decide) ?_
      refine gx_istore C dX9_merge_37 (by decide) ?_
      exact hone j r pa2 _ hj c_17 hr hsr hH hM
    · have e : oMerge (nI j) t = (-2, t) := by
        unfold oMerge
        rw [o1]
        exact if_neg c_17
      refine gx_bipush (v := (-2)) C dX9_merge_20 (by decide) ?_
      refine gx_zret (mc := 0) C rfl ?_ dX9_merge_22
      exact ⟨_, rfl, by rw [e], by rw [e]; exact ⟨st, pa, ty, md, rd, w, hM, hR, hH, hT⟩⟩
  · have hi := gz_if0 c_5
    have e : oMerge i t = (-1, t) := by
      unfold oMerge
      rw [oIx_no hi]
    refine gx_iconst (v := (-1)) C dX9_merge_8 (by decide) ?_
    refine gx_zret (mc := 0) C rfl ?_ dX9_merge_9
    exact ⟨_, rfl, by rw [e], by rw [e]; exact ⟨st, pa, ty, md, rd, w, hM, hR, hH, hT⟩⟩
