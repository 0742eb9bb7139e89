/-! THE MODEL: what is put ahead of a place -/
def mdR (md : Nat → Int32) (xs : List Int32) : Prop := ∀ j : Nat, j < xs.length → md j = xs.getD j 0
def mBr (li : ML) (pos : Nat) : Nat → List Int32
  | 0 => []
  | k + 1 => if li.2.1.getD k 0 = 1 ∧ pKind (li.1.getD k 0) = 1 ∧ pF (li.1.getD k 0) = pos then mBr li pos k ++ [pSign (li.1.getD k 0)] else mBr li pos k
theorem mBr_le {li : ML} {pos k : Nat} : ∀ n : Nat, k ≤ n → (mBr li pos k).length ≤ (mBr li pos n).length := by
  intro n
  induction n with
  | zero => intro h; rw [show k = 0 by omega]; exact Nat.le_refl _
  | succ n ih =>
    intro h
    by_cases q : k = n + 1
    · rw [q]; exact Nat.le_refl _
    · have := ih (by omega)
      rw [mBr]
      split
      · rw [len_1]; omega
      · exact this
theorem mdR_1 {md : Nat → Int32} {xs : List Int32} {c : Int32} (h : mdR md xs) : mdR (upd md xs.length c) (xs ++ [c]) := by
  intro i hi
  rw [len_1] at hi
  by_cases q : i < xs.length
  · rw [gDa_l q, pk_un (by omega)]
    exact h i q
  · have e : i = xs.length := by omega
    subst e
    rw [gDa_r, pk_us]
set_option maxRecDepth 20000 in
theorem in_X9_brings_X9 : ∀ w ∈ wsX90, w ∈ wsX9_brings := by decide +kernel
set_option maxRecDepth 20000 in
theorem fd_X9_brings_7 : gFd wsX9_brings RX9 7 8 RX9 TX9 11 0 := ⟨in_X9_brings_X9, rfl, by decide, by decide +kernel⟩
theorem cb_X9_brings__X9_listed : gCb yX9_listed cX9_listed 1 (some .int) wsX9_listed (gR 0) (gR 2) 0 0 1 := ⟨rfl, rfl, rfl, by decide +kernel, by decide⟩
theorem cb_X9_brings__X9_isAccepted : gCb yX9_isAccepted cX9_isAccepted 2 (some .boolean) wsX9_isAccepted (gR 1) (gR 2) 0 0 1 := ⟨rfl, rfl, rfl, by decide +kernel, by decide⟩
set_option maxRecDepth 20000 in
theorem fd_X9_brings_19 : gFd wsX9_brings RX9 19 8 RX9 TX9 11 5 := ⟨in_X9_brings_X9, rfl, by decide, by decide +kernel⟩
set_option maxRecDepth 20000 in
theorem fd_X9_brings_122 : gFd wsX9_brings RX9 122 8 RX9 TX9 11 6 := ⟨in_X9_brings_X9, rfl, by decide, by decide +kernel⟩
set_option maxHeartbeats 600000 in
set_option maxRecDepth 100000 in
/-- X9_brings -/
theorem k9_brings (l : Launch) (D : gD) (A : Nat → Prop) (hs : Nat) {G : gH} {G0 : gH} {a : Nat} {z0 z1 : Int32} {z3 : Int32 × Int32 × Int32} {st pa ty md rd : Nat → Int32} {xs : List Int32} {li : ML} {n9 : Nat} (hM : gMa D G0 G a (z0, z1, nI xs.length, z3) st pa ty md rd) (hL : sLi st li n9) (hX : mdR md xs) (pos : Nat) (hpos : pos < 1000) (hroom : xs.length + (mBr li pos li.1.length).length ≤ 170) : gM l yX9_brings wsX9_brings (gR 2) D A hs 0 0 [.ref a, .int (nI pos)] G (gPv fun G' => ∃ md' : Nat → Int32, gMa D G0 G' a (z0, z1, nI (xs ++ mBr li pos li.1.length).length, z3) st pa ty md' rd ∧ mdR md' (xs ++ mBr li pos li.1.length)) := by
  refine gM_intro (by decide) rfl rfl (Nat.le_of_ble_eq_true rfl) ?_
  intro p e s m args below meth c C
  have l3 := hL.2.1
  have hloop : ∀ (n j : Nat) (G1 : gH) (o : Option Value) (md1 : Nat → Int32), li.1.length < j + n → j ≤ li.1.length → gMa D G0 G1 a (z0, z1, nI (xs ++ mBr li pos j).length, z3) st pa ty md1 rd ∧ mdR md1 (xs ++ mBr li pos j) → gX p l e (gR 2) s m args below meth c D A 4 hs 0 0 (MQ below (gQ D A hs 0 (gPv fun G' => ∃ md' : Nat → Int32, gMa D G0 G' a (z0, z1, nI (xs ++ mBr li pos li.1.length).length, z3) st pa ty md' rd ∧ mdR md' (xs ++ mBr li pos li.1.length))) args s 0 0 A) G1 [some (.ref a), some (.int (nI pos)), some (.int (nI j)), o] 2 [] := by
    intro n
    induction n with
    | zero => intro j G1 o md1 hm hj0 hI; exact absurd hm (by omega)
    | succ n ih =>
      intro j G1 o md1 hm hj0 hI
      have hM := hI.1
      refine gx_iload_n C dX9_brings_2 rfl ?_
      refine gx_aload_n C dX9_brings_3 rfl ?_
      refine gx_get C fd_X9_brings_7 (hG := hM.2.1) (hv := by rfl) dX9_brings_4 ?_
      refine gx_iconst (v := nI 3) C dX9_brings_7 (by decide) ?_
      refine gx_ialdN C (hG := (by first | exact hM.2.2.1 | exact hM.2.2.2.1 | exact hM.2.2.2.2.1 | exact hM.2.2.2.2.2.1 | exact hM.2.2.2.2.2.2)) (hk := by omega) (hn := by omega) dX9_brings_8 ?_
      rw [hL.1]
      refine gx_icmp_ge (tgt := 82) C dX9_brings_9 (by decide) (fun c_9 => ?_) (fun c_9 => ?_)
      · have hj : ¬ j < li.1.length := fun q => nI_ge q (by omega) c_9
        refine gx_vret (mc := 0) C ?_ dX9_brings_82
        have j8 : j = li.1.length := by omega
        subst j8
        exact ⟨rfl, _, hM, hI.2⟩
      · have hj : j < li.1.length := by
          rcases Nat.lt_or_ge (j) (li.1.length) with q | q
          · exact q
          · exact absurd (nI_le q (by omega)) c_9
        have lj := hL.2.2.2.2.2.2 j hj
        refine gx_iload_n C dX9_brings_12 rfl ?_
        refine gx_callS C (k9_listed l D A hs j) cb_X9_brings__X9_listed gX9_brings_X9_listed rfl rfl (Nat.le_of_ble_eq_true rfl) ⟨Nat.le_refl _, Nat.le_refl _⟩ dX9_brings_13 (gx_ki fun r_13 G_13 h_13 => ?_)
        obtain ⟨rfl, rfl⟩ := h_13
        refine gx_istore_n C dX9_brings_16 (by decide) ?_
        refine gx_aload_n C dX9_brings_17 rfl ?_
        refine gx_iload_n C dX9_brings_18 rfl ?_
        refine gx_callV (ci := 8) (T := TX9) (N := 11) C (k9_isAccepted l D A hs hM.2.1 hM.2.2.1 hL j hj) cb_X9_brings__X9_isAccepted gX9_brings_X9_isAccepted rfl (hG := hM.2.1) rfl rfl (Nat.le_of_ble_eq_true rfl) ⟨Nat.le_refl _, Nat.le_refl _⟩ dX9_brings_19 (gx_ki fun r_19 G_19 h_19 => ?_)
        obtain ⟨rfl, rfl⟩ := h_19
        refine gx_if_eq (tgt := 76) C dX9_brings_22 (by decide) (fun c_22 => ?_) (fun c_22 => ?_)
        · have hx : mBr li pos (j + 1) = mBr li pos j := if_neg (fun q => gz_if0 c_22 q.1)
          first | refine gx_iincN C dX9_brings_76 rfl (by decide) ?_ | refine gx_iinc1 C dX9_brings_76 rfl (by decide) ?_
          refine gx_goto (tgt := 2) C dX9_brings_79 (by decide) ?_
          first
          | exact ih (j + 1) _ _ _ (by omega) (by omega) ⟨by rw [hx, ← List.append_assoc, len_1]; exact hM, by rw [hx, ← List.append_assoc]; exact mdR_1 hI.2⟩
          | exact ih (j + 1) _ _ _ (by omega) (by omega) ⟨by rw [hx]; exact hM, by rw [hx]; exact hI.2⟩
        · refine gx_aload_n C dX9_brings_25 rfl ?_
          refine gx_get C fd_X9_brings_7 (hG := hM.2.1) (hv := by rfl) dX9_brings_26 ?_
          refine gx_iload_n C dX9_brings_29 rfl ?_
          refine gx_iconst (v := nI 0) C dX9_brings_30 (by decide) ?_
          refine gx_iadd C dX9_brings_31 ?_
          first | refine gx_top (nI_add _ _) ?_ | skip
          refine gx_ialdN C (hG := (by first | exact hM.2.2.1 | exact hM.2.2.2.1 | exact hM.2.2.2.2.1 | exact hM.2.2.2.2.2.1 | exact hM.2.2.2.2.2.2)) (hk := by omega) (hn := by omega) dX9_brings_32 ?_
          rw [show st (407 + 7 * j + 0) = _ from lj.1.1]
          refine gx_iconst (v := 1) C dX9_brings_33 (by decide) ?_
          refine gx_icmp_ne (tgt := 76) C dX9_brings_34 (by decide) (fun c_34 => ?_) (fun c_34 => ?_)
          · have hx : mBr li pos (j + 1) = mBr li pos j := if_neg (fun q => c_34 q.2.1)
            first | refine gx_iincN C dX9_brings_76 rfl (by decide) ?_ | refine gx_iinc1 C dX9_brings_76 rfl (by decide) ?_
            refine gx_goto (tgt := 2) C dX9_brings_79 (by decide) ?_
            first
            | exact ih (j + 1) _ _ _ (by omega) (by omega) ⟨by rw [hx, ← List.append_assoc, len_1]; exact hM, by rw [hx, ← List.append_assoc]; exact mdR_1 hI.2⟩
            | exact ih (j + 1) _ _ _ (by omega) (by omega) ⟨by rw [hx]; exact hM, by rw [hx]; exact hI.2⟩
          · refine gx_aload_n C dX9_brings_37 rfl ?_
            refine gx_get C fd_X9_brings_7 (hG := hM.2.1) (hv := by rfl) dX9_brings_38 ?_
            refine gx_iload_n C dX9_brings_41 rfl ?_
            refine gx_iconst (v := nI 1) C dX9_brings_42 (by decide) ?_
            refine gx_iadd C dX9_brings_43 ?_
            first | refine gx_top (nI_add _ _) ?_ | skip
            refine gx_ialdN C (hG := (by first | exact hM.2.2.1 | exact hM.2.2.2.1 | exact hM.2.2.2.2.1 | exact hM.2.2.2.2.2.1 | exact hM.2.2.2.2.2.2)) (hk := by omega) (hn := by omega) dX9_brings_44 ?_
            rw [lj.1.2.1]
            refine gx_iload_n C dX9_brings_45 rfl ?_
            refine gx_icmp_ne (tgt := 76) C dX9_brings_46 (by decide) (fun c_46 => ?_) (fun c_46 => ?_)
            · have hx : mBr li pos (j + 1) = mBr li pos j := if_neg (fun q => c_46 (by rw [pFirst_nI, q.2.2]))
              first | refine gx_iincN C dX9_brings_76 rfl (by decide) ?_ | refine gx_iinc1 C dX9_brings_76 rfl (by decide) ?_
              refine gx_goto (tgt := 2) C dX9_brings_79 (by decide) ?_
              first
              | exact ih (j + 1) _ _ _ (by omega) (by omega) ⟨by rw [hx, ← List.append_assoc, len_1]; exact hM, by rw [hx, ← List.append_assoc]; exact mdR_1 hI.2⟩
              | exact ih (j + 1) _ _ _ (by omega) (by omega) ⟨by rw [hx]; exact hM, by rw [hx]; exact hI.2⟩
            · have hpf : pF (li.1.getD j 0) = pos := by
                rw [pFirst_nI] at c_46
                have := pF_lt (li.1.getD j 0)
                exact (nI_eq (by omega) (by omega)).mp c_46
              have hx : mBr li pos (j + 1) = mBr li pos j ++ [pSign (li.1.getD j 0)] := if_pos ⟨gz_if1 c_22, c_34, hpf⟩
              have hl9 := mBr_le (li := li) (pos := pos) (k := j + 1) li.1.length (by omega)
              rw [hx, len_1] at hl9
              have hl8 : (xs ++ mBr li pos j).length = xs.length + (mBr li pos j).length := List.length_append
              refine gx_aload_n C dX9_brings_49 rfl ?_
              refine gx_get C fd_X9_brings_19 (hG := hM.2.1) (hv := by rfl) dX9_brings_50 ?_
              refine gx_aload_n C dX9_brings_53 rfl ?_
              refine gx_get C fd_X9_brings_122 (hG := hM.2.1) (hv := by rfl) dX9_brings_54 ?_
              refine gx_aload_n C dX9_brings_57 rfl ?_
              refine gx_get C fd_X9_brings_7 (hG := hM.2.1) (hv := by rfl) dX9_brings_58 ?_
              refine gx_iload_n C dX9_brings_61 rfl ?_
              refine gx_iconst (v := nI 3) C dX9_brings_62 (by decide) ?_
              refine gx_iadd C dX9_brings_63 ?_
              first | refine gx_top (nI_add _ _) ?_ | skip
              refine gx_ialdN C (hG := (by first | exact hM.2.2.1 | exact hM.2.2.2.1 | exact hM.2.2.2.2.1 | exact hM.2.2.2.2.2.1 | exact hM.2.2.2.2.2.2)) (hk := by omega) (hn := by omega) dX9_brings_64 ?_
              rw [lj.1.2.2.2]
              refine gx_iastN C (hG := (by first | exact hM.2.2.1 | exact hM.2.2.2.1 | exact hM.2.2.2.2.1 | exact hM.2.2.2.2.2.1 | exact hM.2.2.2.2.2.2)) (hk := by omega) (hn := by omega) dX9_brings_65 ?_
              refine gx_mdM hM (fun hM => ?_)
              refine gx_aload_n C dX9_brings_66 rfl ?_
              refine gx_dup C dX9_brings_67 rfl ?_
              refine gx_get C fd_X9_brings_122 (hG := hM.2.1) (hv := by rfl) dX9_brings_68 ?_
              refine gx_iconst (v := nI 1) C dX9_brings_71 (by decide) ?_
              refine gx_iadd C dX9_brings_72 ?_
              first | refine gx_top (nI_add _ _) ?_ | skip
              refine gx_put C fd_X9_brings_122 tyX9_ok nmX9 rfl rfl rfl (hG := hM.2.1) (hl := by exact Nat.le_of_ble_eq_true rfl) dX9_brings_73 ?_
              have hM := gMa_ob (z' := (z0, z1, nI ((xs ++ mBr li pos j).length + 1), z3)) hM rfl
              first | refine gx_iincN C dX9_brings_76 rfl (by decide) ?_ | refine gx_iinc1 C dX9_brings_76 rfl (by decide) ?_
              refine gx_goto (tgt := 2) C dX9_brings_79 (by decide) ?_
              first
              | exact ih (j + 1) _ _ _ (by omega) (by omega) ⟨by rw [hx, ← List.append_assoc, len_1]; exact hM, by rw [hx, ← List.append_assoc]; exact mdR_1 hI.2⟩
              | exact ih (j + 1) _ _ _ (by omega) (by omega) ⟨by rw [hx]; exact hM, by rw [hx]; exact hI.2⟩
  refine gx_iconst (v := nI 0) C dX9_brings_0 (by decide) ?_
  refine gx_istore_n C dX9_brings_1 (by decide) ?_
  exact hloop (li.1.length + 1) 0 _ none md (by omega) (by omega) ⟨by rw [show xs ++ mBr li pos 0 = xs from List.append_nil _]; exact hM, by rw [show xs ++ mBr li pos 0 = xs from List.append_nil _]; exact hX⟩
