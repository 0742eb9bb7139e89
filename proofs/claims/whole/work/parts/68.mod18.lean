/-! THE MODEL: again -/
theorem sh_a {x f d : Int32} : x + (f - (f + d)) = x - d := by
  apply Int32.toBitVec_inj.mp
  simp only [Int32.toBitVec_add, Int32.toBitVec_sub]
  bv_omega
theorem sh_b {x f d : Int32} : x - (f - (f + d)) = x + d := by
  apply Int32.toBitVec_inj.mp
  simp only [Int32.toBitVec_add, Int32.toBitVec_sub]
  bv_omega
theorem sh_c {x y : Int32} : x - y + (-1) = x - (y + 1) := by
  apply Int32.toBitVec_inj.mp
  simp only [Int32.toBitVec_add, Int32.toBitVec_sub, Int32.toBitVec_neg]
  show _ + -1#32 = _ - (_ + 1#32)
  bv_omega
theorem sh_1 {n f d : Nat} (h : d ≤ n) : nI n + (nI f - nI (f + d)) = nI (n - d) := by
  rw [← nI_add f d, sh_a, pk_sub h]
theorem sh_2 {n f d : Nat} : nI n - (nI f - nI (f + d)) = nI (n + d) := by
  rw [← nI_add f d, sh_b, nI_add]
theorem sh_3 {f d : Nat} (h : 0 < d) (h2 : f + d < 1000) : nI f - nI (f + d) < 0 := by
  rw [Int32.lt_iff_toInt_lt, pk_sub_toInt (by omega) (by omega)]
  show _ < (0 : Int)
  omega
theorem sh_m {n : Nat} (h : 1 ≤ n) : nI n + (-1) = nI (n - 1) := by
  rw [← pk_sub h]
  show _ = nI n - 1
  apply Int32.toBitVec_inj.mp
  simp only [Int32.toBitVec_add, Int32.toBitVec_sub, Int32.toBitVec_neg]
  show _ + -1#32 = _ - 1#32
  bv_omega
theorem sh_p {L i : Nat} (h : i < 1000) (h2 : L < 1000) : ¬ nI L - nI i < 0 ↔ i ≤ L := by
  rw [Int32.lt_iff_toInt_lt, pk_sub_toInt (by omega) (by omega)]
  show ¬ _ < (0 : Int) ↔ _
  omega
theorem mdR_set {md : Nat → Int32} {xs : List Int32} {i : Nat} {v : Int32} (h : mdR md xs) : mdR (upd md i v) (xs.set i v) := by
  intro j hj
  rw [List.length_set] at hj
  rw [gSt_e]
  by_cases q : i = j
  · subst q
    rw [if_pos ⟨rfl, hj⟩, pk_us]
  · rw [if_neg (fun y => q y.1), pk_un (Ne.symm q)]
    exact h j hj
theorem iOk_0 {z : Int32} {n : Nat} (h : iOk0 z n) (k : pKind z = 0) : pF z < pS z := by
  rcases h with h | h | h | h | h | h
  · exact h.2.1
  · rw [k] at h; exact absurd h.1 (by decide)
  · rw [k] at h; exact absurd h.1 (by decide)
  · rw [k] at h; exact absurd h.1 (by decide)
  · rw [k] at h; exact absurd h.1 (by decide)
  · rw [k] at h; exact absurd h.1 (by decide)
theorem tk_i {tn : Nat} (h : tn < 2) : nI tn = 1 ↔ tn = 1 := nI_eq (b := 1) (by omega) (by omega)
theorem tk_a {k : Int32} {tn : Nat} (h : tn < 2) (h1 : ¬ k = 1) (h2 : ¬ nI tn = 1) : (1 : Int32) = if (k = 1 ↔ tn = 1) then 1 else 0 := (if_pos ⟨fun q => absurd q h1, fun q => absurd ((tk_i h).mpr q) h2⟩).symm
theorem tk_b {k : Int32} {tn : Nat} (h : tn < 2) (h1 : k = 1) (h2 : nI tn = 1) : (1 : Int32) = if (k = 1 ↔ tn = 1) then 1 else 0 := (if_pos ⟨fun _ => (tk_i h).mp h2, fun _ => h1⟩).symm
theorem tk_c {k : Int32} {tn : Nat} (h : tn < 2) (h1 : k = 1) (h2 : ¬ nI tn = 1) : (0 : Int32) = if (k = 1 ↔ tn = 1) then 1 else 0 := (if_neg (fun q => h2 ((tk_i h).mpr (q.mp h1)))).symm
theorem tk_d {k : Int32} {tn : Nat} (h : tn < 2) (h1 : ¬ k = 1) (h2 : nI tn = 1) : (0 : Int32) = if (k = 1 ↔ tn = 1) then 1 else 0 := (if_neg (fun q => h1 (q.mpr ((tk_i h).mp h2)))).symm
theorem mOr_sp0 {li : ML} {L k i j : Nat} (hi : i ≤ L) (hj : j < k) (h : li.2.1.getD j 0 = 1 ∧ pF (li.1.getD j 0) = L - i ∧ (pKind (li.1.getD j 0) = 1 ↔ 0 = 1)) : ∃ S : List Int32, mOr li L k (L + 1) = (mOr li L k i ++ mBk li (L - i) 0 j) ++ li.1.getD j 0 :: S := by
  obtain ⟨S, e⟩ := mBk_sp h k hj
  have e1 := @mOr_a li L k (i + 1) (L - i)
  have u : mOr li L k (i + 1) = (mOr li L k i ++ mBk li (L - i) 0 k) ++ mBk li (L - i) 1 k := rfl
  rw [show i + 1 + (L - i) = L + 1 by omega, u, e] at e1
  exact ⟨S ++ (mBk li (L - i) 1 k ++ mOr li (L - (i + 1)) k (L - i)), by rw [e1]; simp only [List.append_assoc, List.cons_append]⟩
theorem mOr_sp1 {li : ML} {L k i j : Nat} (hi : i ≤ L) (hj : j < k) (h : li.2.1.getD j 0 = 1 ∧ pF (li.1.getD j 0) = L - i ∧ (pKind (li.1.getD j 0) = 1 ↔ 1 = 1)) : ∃ S : List Int32, mOr li L k (L + 1) = ((mOr li L k i ++ mBk li (L - i) 0 k) ++ mBk li (L - i) 1 j) ++ li.1.getD j 0 :: S := by
  obtain ⟨S, e⟩ := mBk_sp h k hj
  have e1 := @mOr_a li L k (i + 1) (L - i)
  have u : mOr li L k (i + 1) = (mOr li L k i ++ mBk li (L - i) 0 k) ++ mBk li (L - i) 1 k := rfl
  rw [show i + 1 + (L - i) = L + 1 by omega, u, e] at e1
  exact ⟨S ++ mOr li (L - (i + 1)) k (L - i), by rw [e1]; simp only [List.append_assoc, List.cons_append]⟩
set_option maxRecDepth 20000 in
theorem in_X9_shifts_X9 : ∀ w ∈ wsX90, w ∈ wsX9_shifts := by decide +kernel
set_option maxRecDepth 20000 in
theorem fd_X9_shifts_122 : gFd wsX9_shifts RX9 122 8 RX9 TX9 11 6 := ⟨in_X9_shifts_X9, rfl, by decide, by decide +kernel⟩
set_option maxRecDepth 20000 in
theorem fd_X9_shifts_19 : gFd wsX9_shifts RX9 19 8 RX9 TX9 11 5 := ⟨in_X9_shifts_X9, rfl, by decide, by decide +kernel⟩
set_option maxRecDepth 20000 in
theorem in_X9_carries_X9 : ∀ w ∈ wsX90, w ∈ wsX9_carries := by decide +kernel
set_option maxRecDepth 20000 in
theorem fd_X9_carries_7 : gFd wsX9_carries RX9 7 8 RX9 TX9 11 0 := ⟨in_X9_carries_X9, rfl, by decide, by decide +kernel⟩
theorem cb_X9_carries__X9_shifts : gCb yX9_shifts cX9_shifts 4 none wsX9_shifts (gR 0) (gR 2) 0 0 2 := ⟨rfl, rfl, rfl, by decide +kernel, by decide⟩
set_option maxRecDepth 20000 in
theorem fd_X9_carries_19 : gFd wsX9_carries RX9 19 8 RX9 TX9 11 5 := ⟨in_X9_carries_X9, rfl, by decide, by decide +kernel⟩
theorem cb_X9_carries__X9_other : gCb yX9_other cX9_other 1 (some .int) wsX9_other (gR 1) (gR 2) 0 0 1 := ⟨rfl, rfl, rfl, by decide +kernel, by decide⟩
set_option maxRecDepth 20000 in
theorem fd_X9_carries_122 : gFd wsX9_carries RX9 122 8 RX9 TX9 11 6 := ⟨in_X9_carries_X9, rfl, by decide, by decide +kernel⟩
theorem cb_X9_makesOneByOne__X9_isAccepted : gCb yX9_isAccepted cX9_isAccepted 2 (some .boolean) wsX9_isAccepted (gR 1) (gR 3) 0 0 1 := ⟨rfl, rfl, rfl, by decide +kernel, by decide⟩
set_option maxRecDepth 20000 in
theorem in_X9_makesOneByOne_X9 : ∀ w ∈ wsX90, w ∈ wsX9_makesOneByOne := by decide +kernel
set_option maxRecDepth 20000 in
theorem fd_X9_makesOneByOne_7 : gFd wsX9_makesOneByOne RX9 7 8 RX9 TX9 11 0 := ⟨in_X9_makesOneByOne_X9, rfl, by decide, by decide +kernel⟩
theorem cb_X9_makesOneByOne__X9_carries : gCb yX9_carries cX9_carries 4 none wsX9_carries (gR 2) (gR 3) 0 0 1 := ⟨rfl, rfl, rfl, by decide +kernel, by decide⟩
theorem cb_X9_makesOneByOne__X9_listed : gCb yX9_listed cX9_listed 1 (some .int) wsX9_listed (gR 0) (gR 3) 0 0 1 := ⟨rfl, rfl, rfl, by decide +kernel, by decide⟩
set_option maxRecDepth 20000 in
theorem fd_X9_makesOneByOne_122 : gFd wsX9_makesOneByOne RX9 122 8 RX9 TX9 11 6 := ⟨in_X9_makesOneByOne_X9, rfl, by decide, by decide +kernel⟩
set_option maxRecDepth 20000 in
theorem fd_X9_makesOneByOne_19 : gFd wsX9_makesOneByOne RX9 19 8 RX9 TX9 11 5 := ⟨in_X9_makesOneByOne_X9, rfl, by decide, by decide +kernel⟩
theorem cb_X9_again__X9_makesOneByOne : gCb yX9_makesOneByOne cX9_makesOneByOne 6 none wsX9_makesOneByOne (gR 3) (gR 4) 0 0 0 := ⟨rfl, rfl, rfl, by decide +kernel, by decide⟩
theorem cb_X9_again__X9_madeAt : gCb yX9_madeAt cX9_madeAt 2 (some .int) wsX9_madeAt (gR 0) (gR 4) 0 0 1 := ⟨rfl, rfl, rfl, by decide +kernel, by decide⟩
set_option maxHeartbeats 600000 in
set_option maxRecDepth 100000 in
/-- X9_shifts -/
theorem k9_shiftsD (l : Launch) (D : gD) (A : Nat → Prop) (hs : Nat) {G : gH} {G0 : gH} {a : Nat} {z0 z1 : Int32} {z3 : Int32 × Int32 × Int32} {st pa ty md rd : Nat → Int32} {xs : List Int32} (hM : gMa D G0 G a (z0, z1, nI xs.length, z3) st pa ty md rd) (hX : mdR md xs) (f d : Nat) (hd : 0 < d) (hs2 : f + d ≤ xs.length) (hl : xs.length ≤ 170) : gM l yX9_shifts wsX9_shifts (gR 0) D A hs 0 0 [.ref a, .int (nI f), .int (nI f - nI (f + d))] G (gPv fun G' => ∃ md' : Nat → Int32, gMa D G0 G' a (z0, z1, nI (xs.length - d), z3) st pa ty md' rd ∧ ∀ j : Nat, j < xs.length - d → md' j = if j < f then xs.getD j 0 else xs.getD (j + d) 0) := by
  refine gM_intro (by decide) rfl rfl (Nat.le_of_ble_eq_true rfl) ?_
  intro p e s m args below meth c C
  have hloop : ∀ (n j : Nat) (G1 : gH) (md1 : Nat → Int32), xs.length - d < j + n → j ≤ xs.length - d → gMa D G0 G1 a (z0, z1, nI xs.length, z3) st pa ty md1 rd ∧ (∀ i : Nat, i < xs.length → md1 i = if f ≤ i ∧ i < j then xs.getD (i + d) 0 else xs.getD i 0) ∧ f ≤ j → gX p l e (gR 0) s m args below meth c D A 4 hs 0 0 (MQ below (gQ D A hs 0 (gPv fun G' => ∃ md' : Nat → Int32, gMa D G0 G' a (z0, z1, nI (xs.length - d), z3) st pa ty md' rd ∧ ∀ j : Nat, j < xs.length - d → md' j = if j < f then xs.getD j 0 else xs.getD (j + d) 0)) args s 0 0 A) G1 [some (.ref a), some (.int (nI f)), some (.int (nI f - nI (f + d))), some (.int (nI j))] 2 [] := by
    intro n
    induction n with
    | zero => intro j G1 md1 hm hj0 hI; exact absurd hm (by omega)
    | succ n ih =>
      intro j G1 md1 hm hj0 hI
      have hM := hI.1; have hf := hI.2.2
      refine gx_iload_n C dX9_shifts_2 rfl ?_
      refine gx_if_ge (tgt := 36) C dX9_shifts_3 (by decide) (fun c_3 => ?_) (fun c_3 => ?_)
      · exact absurd (sh_3 (f := f) hd (by omega)) (Int32.not_lt.mpr c_3)
      · refine gx_iload_n C dX9_shifts_6 rfl ?_
        refine gx_aload_n C dX9_shifts_7 rfl ?_
        refine gx_get C fd_X9_shifts_122 (hG := hM.2.1) (hv := by rfl) dX9_shifts_8 ?_
        refine gx_iload_n C dX9_shifts_11 rfl ?_
        refine gx_iadd C dX9_shifts_12 ?_
        refine gx_top (y := nI (xs.length - d)) (sh_1 (by omega)) ?_
        refine gx_icmp_ge (tgt := 36) C dX9_shifts_13 (by decide) (fun c_13 => ?_) (fun c_13 => ?_)
        · have hj : ¬ j < xs.length - d := fun q => nI_ge q (by omega) c_13
          obtain rfl : j = xs.length - d := by omega
          refine gx_aload_n C dX9_shifts_36 rfl ?_
          refine gx_get C fd_X9_shifts_122 (hG := hM.2.1) (hv := by rfl) dX9_shifts_37 ?_
          refine gx_iload_n C dX9_shifts_40 rfl ?_
          refine gx_iadd C dX9_shifts_41 ?_
          refine gx_top (y := nI (xs.length - d)) (sh_1 (by omega)) ?_
          refine gx_iconst (v := nI 1) C dX9_shifts_42 (by decide) ?_
          refine gx_isub C dX9_shifts_43 ?_
          refine gx_istore_n C dX9_shifts_44 (by decide) ?_
          refine gx_iload_n C dX9_shifts_45 rfl ?_
          refine gx_if_le (tgt := 76) C dX9_shifts_46 (by decide) (fun c_46 => ?_) (fun c_46 => ?_)
          · refine gx_aload_n C dX9_shifts_76 rfl ?_
            refine gx_dup C dX9_shifts_77 rfl ?_
            refine gx_get C fd_X9_shifts_122 (hG := hM.2.1) (hv := by rfl) dX9_shifts_78 ?_
            refine gx_iload_n C dX9_shifts_81 rfl ?_
            refine gx_iadd C dX9_shifts_82 ?_
            refine gx_top (y := nI (xs.length - d)) (sh_1 (by omega)) ?_
            refine gx_put C fd_X9_shifts_122 tyX9_ok nmX9 rfl rfl rfl (hG := hM.2.1) (hl := by exact Nat.le_of_ble_eq_true rfl) dX9_shifts_83 ?_
            refine gx_obM (z0, z1, nI (xs.length - d), z3) hM rfl (fun hM => ?_)
            refine gx_vret (mc := 0) C ?_ dX9_shifts_86
            refine ⟨rfl, _, hM, fun i hi => ?_⟩
            rw [hI.2.1 i (by omega)]
            by_cases q : i < f
            · rw [if_pos q, if_neg (by omega)]
            · rw [if_neg q, if_pos ⟨by omega, hi⟩]
          · exact absurd (Int32.le_of_lt (sh_3 (f := f) hd (by omega))) c_46
        · have hj : j < xs.length - d := by
            rcases Nat.lt_or_ge (j) (xs.length - d) with q | q
            · exact q
            · exact absurd (nI_le q (by omega)) c_13
          refine gx_aload_n C dX9_shifts_16 rfl ?_
          refine gx_get C fd_X9_shifts_19 (hG := hM.2.1) (hv := by rfl) dX9_shifts_17 ?_
          refine gx_iload_n C dX9_shifts_20 rfl ?_
          refine gx_aload_n C dX9_shifts_21 rfl ?_
          refine gx_get C fd_X9_shifts_19 (hG := hM.2.1) (hv := by rfl) dX9_shifts_22 ?_
          refine gx_iload_n C dX9_shifts_25 rfl ?_
          refine gx_iload_n C dX9_shifts_26 rfl ?_
          refine gx_isub C dX9_shifts_27 ?_
          refine gx_top (y := nI (j + d)) sh_2 ?_
          refine gx_ialdN C (hG := (by first | exact hM.2.2.1 | exact hM.2.2.2.1 | exact hM.2.2.2.2.1 | exact hM.2.2.2.2.2.1 | exact hM.2.2.2.2.2.2)) (hk := by omega) (hn := by omega) dX9_shifts_28 ?_
          rw [hI.2.1 (j + d) (by omega), if_neg (by omega)]
          refine gx_iastN C (hG := (by first | exact hM.2.2.1 | exact hM.2.2.2.1 | exact hM.2.2.2.2.1 | exact hM.2.2.2.2.2.1 | exact hM.2.2.2.2.2.2)) (hk := by omega) (hn := by omega) dX9_shifts_29 ?_
          refine gx_mdM hM (fun hM => ?_)
          first | refine gx_iincN C dX9_shifts_30 rfl (by decide) ?_ | refine gx_iinc1 C dX9_shifts_30 rfl (by decide) ?_
          refine gx_goto (tgt := 2) C dX9_shifts_33 (by decide) ?_
          refine ih (j + 1) _ _ (by omega) (by omega) ⟨hM, fun i hi => ?_, by omega⟩
          by_cases q : i = j
          · subst q
            rw [pk_us, if_pos ⟨by omega, by omega⟩]
          · rw [pk_un q, hI.2.1 i hi]
            by_cases y : f ≤ i ∧ i < j
            · rw [if_pos y, if_pos ⟨y.1, by omega⟩]
            · rw [if_neg y, if_neg (by omega)]
  refine gx_iload_n C dX9_shifts_0 rfl ?_
  refine gx_istore_n C dX9_shifts_1 (by decide) ?_
  exact hloop (xs.length + 1) f _ md (by omega) (by omega) ⟨hM, fun i hi => by rw [if_neg (by omega)]; exact hX i hi, Nat.le_refl _⟩
set_option maxHeartbeats 600000 in
set_option maxRecDepth 100000 in
/-- X9_shifts -/
theorem k9_shiftsI (l : Launch) (D : gD) (A : Nat → Prop) (hs : Nat) {G : gH} {G0 : gH} {a : Nat} {z0 z1 : Int32} {z3 : Int32 × Int32 × Int32} {st pa ty md rd : Nat → Int32} {xs : List Int32} (hM : gMa D G0 G a (z0, z1, nI xs.length, z3) st pa ty md rd) (hX : mdR md xs) (f : Nat) (hs2 : f ≤ xs.length) (hl : xs.length < 165) : gM l yX9_shifts wsX9_shifts (gR 0) D A hs 0 0 [.ref a, .int (nI f), .int (nI 1)] G (gPv fun G' => ∃ md' : Nat → Int32, gMa D G0 G' a (z0, z1, nI (xs.length + 1), z3) st pa ty md' rd ∧ (∀ j : Nat, j < f → md' j = xs.getD j 0) ∧ ∀ j : Nat, f < j → j < xs.length + 1 → md' j = xs.getD (j - 1) 0) := by
  refine gM_intro (by decide) rfl rfl (Nat.le_of_ble_eq_true rfl) ?_
  intro p e s m args below meth c C
  have hloop : ∀ (n j : Nat) (G1 : gH) (md1 : Nat → Int32), xs.length - f < j + n → j ≤ xs.length - f → gMa D G0 G1 a (z0, z1, nI xs.length, z3) st pa ty md1 rd ∧ (∀ i : Nat, i ≤ xs.length - j → i < xs.length → md1 i = xs.getD i 0) ∧ (∀ i : Nat, xs.length - j < i → i < xs.length + 1 → md1 i = xs.getD (i - 1) 0) → gX p l e (gR 0) s m args below meth c D A 4 hs 0 0 (MQ below (gQ D A hs 0 (gPv fun G' => ∃ md' : Nat → Int32, gMa D G0 G' a (z0, z1, nI (xs.length + 1), z3) st pa ty md' rd ∧ (∀ j : Nat, j < f → md' j = xs.getD j 0) ∧ ∀ j : Nat, f < j → j < xs.length + 1 → md' j = xs.getD (j - 1) 0)) args s 0 0 A) G1 [some (.ref a), some (.int (nI f)), some (.int (nI 1)), some (.int (nI (xs.length - j)))] 45 [] := by
    intro n
    induction n with
    | zero => intro j G1 md1 hm hj0 hI; exact absurd hm (by omega)
    | succ n ih =>
      intro j G1 md1 hm hj0 hI
      have hM := hI.1
      refine gx_iload_n C dX9_shifts_45 rfl ?_
      refine gx_if_le (tgt := 76) C dX9_shifts_46 (by decide) (fun c_46 => ?_) (fun c_46 => ?_)
      · exact absurd c_46 (by decide)
      · refine gx_iload_n C dX9_shifts_49 rfl ?_
        refine gx_iload_n C dX9_shifts_50 rfl ?_
        refine gx_iload_n C dX9_shifts_51 rfl ?_
        refine gx_iadd C dX9_shifts_52 ?_
        first | refine gx_top (nI_add _ _) ?_ | skip
        refine gx_icmp_lt (tgt := 76) C dX9_shifts_53 (by decide) (fun c_53 => ?_) (fun c_53 => ?_)
        · have hj := (nI_ltI (by omega) (by omega)).mp c_53
          obtain rfl : j = xs.length - f := by omega
          refine gx_aload_n C dX9_shifts_76 rfl ?_
          refine gx_dup C dX9_shifts_77 rfl ?_
          refine gx_get C fd_X9_shifts_122 (hG := hM.2.1) (hv := by rfl) dX9_shifts_78 ?_
          refine gx_iload_n C dX9_shifts_81 rfl ?_
          refine gx_iadd C dX9_shifts_82 ?_
          first | refine gx_top (nI_add _ _) ?_ | skip
          refine gx_put C fd_X9_shifts_122 tyX9_ok nmX9 rfl rfl rfl (hG := hM.2.1) (hl := by exact Nat.le_of_ble_eq_true rfl) dX9_shifts_83 ?_
          refine gx_obM (z0, z1, nI (xs.length + 1), z3) hM rfl (fun hM => ?_)
          refine gx_vret (mc := 0) C ?_ dX9_shifts_86
          exact ⟨rfl, _, hM, fun i hi => hI.2.1 i (by omega) (by omega), fun i hi h2 => hI.2.2 i (by omega) h2⟩
        · have hj : ¬ xs.length - j < f + 1 := fun q => c_53 (nI_lt q (by omega))
          refine gx_aload_n C dX9_shifts_56 rfl ?_
          refine gx_get C fd_X9_shifts_19 (hG := hM.2.1) (hv := by rfl) dX9_shifts_57 ?_
          refine gx_iload_n C dX9_shifts_60 rfl ?_
          refine gx_aload_n C dX9_shifts_61 rfl ?_
          refine gx_get C fd_X9_shifts_19 (hG := hM.2.1) (hv := by rfl) dX9_shifts_62 ?_
          refine gx_iload_n C dX9_shifts_65 rfl ?_
          refine gx_iload_n C dX9_shifts_66 rfl ?_
          refine gx_isub C dX9_shifts_67 ?_
          refine gx_top (y := nI (xs.length - j - 1)) (pk_sub (by omega)) ?_
          refine gx_ialdN C (hG := (by first | exact hM.2.2.1 | exact hM.2.2.2.1 | exact hM.2.2.2.2.1 | exact hM.2.2.2.2.2.1 | exact hM.2.2.2.2.2.2)) (hk := by omega) (hn := by omega) dX9_shifts_68 ?_
          rw [hI.2.1 (xs.length - j - 1) (by omega) (by omega)]
          refine gx_iastN C (hG := (by first | exact hM.2.2.1 | exact hM.2.2.2.1 | exact hM.2.2.2.2.1 | exact hM.2.2.2.2.2.1 | exact hM.2.2.2.2.2.2)) (hk := by omega) (hn := by omega) dX9_shifts_69 ?_
          refine gx_mdM hM (fun hM => ?_)
          refine gx_iincm C dX9_shifts_70 rfl (by decide) ?_
          refine gx_goto (tgt := 45) C dX9_shifts_73 (by decide) ?_
          refine gx_V ?_ (ih (j + 1) _ _ (by omega) (by omega) ⟨hM, fun i hi h2 => ?_, fun i hi h2 => ?_⟩)
          · show [_, _, _, some (Value.int (nI (xs.length - j) + (-1)))] = _
            rw [sh_m (by omega), Nat.sub_sub]
          · rw [pk_un (by omega)]
            exact hI.2.1 i (by omega) h2
          · by_cases q : i = xs.length - j
            · subst q
              rw [pk_us]
            · rw [pk_un q]
              exact hI.2.2 i (by omega) h2
  refine gx_iload_n C dX9_shifts_0 rfl ?_
  refine gx_istore_n C dX9_shifts_1 (by decide) ?_
  refine gx_iload_n C dX9_shifts_2 rfl ?_
  refine gx_if_ge (tgt := 36) C dX9_shifts_3 (by decide) (fun c_3 => ?_) (fun c_3 => ?_)
  · refine gx_aload_n C dX9_shifts_36 rfl ?_
    refine gx_get C fd_X9_shifts_122 (hG := hM.2.1) (hv := by rfl) dX9_shifts_37 ?_
    refine gx_iload_n C dX9_shifts_40 rfl ?_
    refine gx_iadd C dX9_shifts_41 ?_
    first | refine gx_top (nI_add _ _) ?_ | skip
    refine gx_iconst (v := nI 1) C dX9_shifts_42 (by decide) ?_
    refine gx_isub C dX9_shifts_43 ?_
    refine gx_top (y := nI xs.length) (pk_sub (a := xs.length + 1) (b := 1) (by omega)) ?_
    refine gx_istore_n C dX9_shifts_44 (by decide) ?_
    exact hloop (xs.length + 1) 0 _ md (by omega) (by omega) ⟨hM, fun i hi h2 => hX i h2, fun i hi h2 => absurd hi (by omega)⟩
  · exact absurd (by decide) c_3
set_option maxHeartbeats 600000 in
set_option maxRecDepth 100000 in
/-- X9_carries -/
theorem k9_carries (l : Launch) (D : gD) (A : Nat → Prop) (hs : Nat) {G : gH} {G0 : gH} {a : Nat} {z0 z1 : Int32} {z3 : Int32 × Int32 × Int32} {st pa ty md rd : Nat → Int32} {xs : List Int32} (hM : gMa D G0 G a (z0, z1, nI xs.length, z3) st pa ty md rd) (hX : mdR md xs) {p1 n9 : Nat} {c9 : Int32} (hp : mkR st p1 c9) (hp8 : p1 + 3 < 855) (hc : iOk c9 n9) (h1 : ¬ pKind c9 = 5 → pE c9 ≤ xs.length) (hl : xs.length < 164) : gM l yX9_carries wsX9_carries (gR 2) D A hs 0 0 [.ref a, .int (nI p1)] G (gPv fun G' => ∃ md' : Nat → Int32, gMa D G0 G' a (z0, z1, nI (pCar xs c9).length, z3) st pa ty md' rd ∧ mdR md' (pCar xs c9)) := by
  refine gM_intro (by decide) rfl rfl (Nat.le_of_ble_eq_true rfl) ?_
  intro p e s m args below meth c C
  have u1 := pF_lt c9
  have u2 := pS_lt c9
  have hone : gX p l e (gR 2) s m args below meth c D A 4 hs 0 0 (MQ below (gQ D A hs 0 (gPv fun G' => ∃ md' : Nat → Int32, gMa D G0 G' a (z0, z1, nI (pCar xs c9).length, z3) st pa ty md' rd ∧ mdR md' (pCar xs c9))) args s 0 0 A) G [some (.ref a), some (.int (nI p1)), some (.int (nI (pF c9))), none] 27 [.int (xs.getD (pF c9) 0)] := by
    refine gx_istore_n C dX9_carries_27 (by decide) ?_
    refine gx_aload_n C dX9_carries_28 rfl ?_
    refine gx_get C fd_X9_carries_7 (hG := hM.2.1) (hv := by rfl) dX9_carries_29 ?_
    refine gx_iload_n C dX9_carries_32 rfl ?_
    refine gx_iconst (v := nI 0) C dX9_carries_33 (by decide) ?_
    refine gx_iadd C dX9_carries_34 ?_
    first | refine gx_top (nI_add _ _) ?_ | skip
    refine gx_ialdN C (hG := (by first | exact hM.2.2.1 | exact hM.2.2.2.1 | exact hM.2.2.2.2.1 | exact hM.2.2.2.2.2.1 | exact hM.2.2.2.2.2.2)) (hk := by omega) (hn := by omega) dX9_carries_35 ?_
    rw [show st (p1 + 0) = pKind c9 from hp.1]
    refine gx_split 0 (fun c_36_0 => ?_) (fun c_36_0 => ?_)
    · refine gx_tableIn (off := 36) (tgt := 72) C dX9_carries_36 (by rw [c_36_0]; decide) (by rw [c_36_0]; decide) (by rw [c_36_0]; rfl) (by decide) ?_
      have k9 : pKind c9 = 0 := c_36_0
      have e9 : pE c9 = pS c9 := if_pos k9
      have i9 := iOk_0 hc.1 k9
      have h2 := h1 (by rw [k9]; decide)
      have r9 := pRemN_e (xs := xs) (a := pF c9) (by omega) (pS c9 - pF c9) (by omega)
      refine gx_aload_n C dX9_carries_72 rfl ?_
      refine gx_iload_n C dX9_carries_73 rfl ?_
      refine gx_iload_n C dX9_carries_74 rfl ?_
      refine gx_aload_n C dX9_carries_75 rfl ?_
      refine gx_get C fd_X9_carries_7 (hG := hM.2.1) (hv := by rfl) dX9_carries_76 ?_
      refine gx_iload_n C dX9_carries_79 rfl ?_
      refine gx_iconst (v := nI 2) C dX9_carries_80 (by decide) ?_
      refine gx_iadd C dX9_carries_81 ?_
      first | refine gx_top (nI_add _ _) ?_ | skip
      refine gx_ialdN C (hG := (by first | exact hM.2.2.1 | exact hM.2.2.2.1 | exact hM.2.2.2.2.1 | exact hM.2.2.2.2.2.1 | exact hM.2.2.2.2.2.2)) (hk := by omega) (hn := by omega) dX9_carries_82 ?_
      rw [hp.2.2.1, pSecond_nI, show pS c9 = pF c9 + (pS c9 - pF c9) by omega]
      refine gx_isub C dX9_carries_83 ?_
      refine gx_callV (ci := 8) (T := TX9) (N := 11) C (k9_shiftsD l D A hs hM hX (pF c9) (pS c9 - pF c9) (by omega) (by omega) (by omega)) cb_X9_carries__X9_shifts gX9_carries_X9_shifts rfl (hG := hM.2.1) rfl rfl (Nat.le_of_ble_eq_true rfl) ⟨Nat.le_refl _, Nat.le_refl _⟩ dX9_carries_84 (gx_kv fun G_84 h_84 => ?_)
      obtain ⟨md2, hM, hX2⟩ := h_84
      have hW : ∀ G9 : gH, gMa D G0 G9 a (z0, z1, nI (xs.length - (pS c9 - pF c9)), z3) st pa ty md2 rd → ∃ md' : Nat → Int32, gMa D G0 G9 a (z0, z1, nI (pCar xs c9).length, z3) st pa ty md' rd ∧ mdR md' (pCar xs c9) := by
        intro G9 hM
        exact ⟨md2, by rw [pCar_0 k9, r9.1]; exact hM, by rw [pCar_0 k9]; intro j hj; rw [r9.1] at hj; rw [r9.2]; exact hX2 j hj⟩
      refine gx_goto (tgt := 169) C dX9_carries_87 (by decide) ?_
      refine gx_vret (mc := 0) C ?_ dX9_carries_169
      exact ⟨rfl, hW _ hM⟩
    -- else
    refine gx_split 1 (fun c_36_1 => ?_) (fun c_36_1 => ?_)
    · refine gx_tableIn (off := 54) (tgt := 90) C dX9_carries_36 (by rw [c_36_1]; decide) (by rw [c_36_1]; decide) (by rw [c_36_1]; rfl) (by decide) ?_
      have k9 : pKind c9 = 1 := c_36_1
      have e9 := pE_1 k9
      have h2 := h1 (by rw [k9]; decide)
      have r9 := lins_e (xs := xs) (a := pF c9) (v := pSign c9) (by omega) hl
      refine gx_aload_n C dX9_carries_90 rfl ?_
      refine gx_iload_n C dX9_carries_91 rfl ?_
      refine gx_iconst (v := nI 1) C dX9_carries_92 (by decide) ?_
      refine gx_callV (ci := 8) (T := TX9) (N := 11) C (k9_shiftsI l D A hs hM hX (pF c9) (by omega) (by omega)) cb_X9_carries__X9_shifts gX9_carries_X9_shifts rfl (hG := hM.2.1) rfl rfl (Nat.le_of_ble_eq_true rfl) ⟨Nat.le_refl _, Nat.le_refl _⟩ dX9_carries_93 (gx_kv fun G_93 h_93 => ?_)
      obtain ⟨md2, hM, hX1, hX2⟩ := h_93
      refine gx_aload_n C dX9_carries_96 rfl ?_
      refine gx_get C fd_X9_carries_19 (hG := hM.2.1) (hv := by rfl) dX9_carries_97 ?_
      refine gx_iload_n C dX9_carries_100 rfl ?_
      refine gx_aload_n C dX9_carries_101 rfl ?_
      refine gx_get C fd_X9_carries_7 (hG := hM.2.1) (hv := by rfl) dX9_carries_102 ?_
      refine gx_iload_n C dX9_carries_105 rfl ?_
      refine gx_iconst (v := nI 3) C dX9_carries_106 (by decide) ?_
      refine gx_iadd C dX9_carries_107 ?_
      first | refine gx_top (nI_add _ _) ?_ | skip
      refine gx_ialdN C (hG := (by first | exact hM.2.2.1 | exact hM.2.2.2.1 | exact hM.2.2.2.2.1 | exact hM.2.2.2.2.2.1 | exact hM.2.2.2.2.2.2)) (hk := by omega) (hn := by omega) dX9_carries_108 ?_
      rw [hp.2.2.2]
      refine gx_iastN C (hG := (by first | exact hM.2.2.1 | exact hM.2.2.2.1 | exact hM.2.2.2.2.1 | exact hM.2.2.2.2.2.1 | exact hM.2.2.2.2.2.2)) (hk := by omega) (hn := by omega) dX9_carries_109 ?_
      refine gx_mdM hM (fun hM => ?_)
      have hW : ∀ G9 : gH, gMa D G0 G9 a (z0, z1, nI (xs.length + 1), z3) st pa ty (upd md2 (pF c9) (pSign c9)) rd → ∃ md' : Nat → Int32, gMa D G0 G9 a (z0, z1, nI (pCar xs c9).length, z3) st pa ty md' rd ∧ mdR md' (pCar xs c9) := by
        intro G9 hM
        refine ⟨_, by rw [pCar_1 k9, r9.1]; exact hM, ?_⟩
        rw [pCar_1 k9]
        intro j hj
        rw [r9.1] at hj
        rw [r9.2]
        by_cases q : j < pF c9
        · rw [if_pos q, pk_un (by omega)]
          exact hX1 j q
        · rw [if_neg q]
          by_cases q2 : j = pF c9
          · rw [if_pos q2, q2, pk_us]
          · rw [if_neg q2, pk_un q2]
            exact hX2 j (by omega) hj
      refine gx_goto (tgt := 169) C dX9_carries_110 (by decide) ?_
      refine gx_vret (mc := 0) C ?_ dX9_carries_169
      exact ⟨rfl, hW _ hM⟩
    -- else
    refine gx_split 2 (fun c_36_2 => ?_) (fun c_36_2 => ?_)
    · refine gx_tableIn (off := 77) (tgt := 113) C dX9_carries_36 (by rw [c_36_2]; decide) (by rw [c_36_2]; decide) (by rw [c_36_2]; rfl) (by decide) ?_
      have k9 : pKind c9 = 2 := c_36_2
      have e9 : pE c9 = pF c9 + 1 := by rw [pE, if_neg (by rw [k9]; decide), if_neg (by rw [k9]; decide), if_neg (by rw [k9]; decide)]
      have h2 := h1 (by rw [k9]; decide)
      refine gx_aload_n C dX9_carries_113 rfl ?_
      refine gx_get C fd_X9_carries_19 (hG := hM.2.1) (hv := by rfl) dX9_carries_114 ?_
      refine gx_iload_n C dX9_carries_117 rfl ?_
      refine gx_aload_n C dX9_carries_118 rfl ?_
      refine gx_get C fd_X9_carries_7 (hG := hM.2.1) (hv := by rfl) dX9_carries_119 ?_
      refine gx_iload_n C dX9_carries_122 rfl ?_
      refine gx_iconst (v := nI 3) C dX9_carries_123 (by decide) ?_
      refine gx_iadd C dX9_carries_124 ?_
      first | refine gx_top (nI_add _ _) ?_ | skip
      refine gx_ialdN C (hG := (by first | exact hM.2.2.1 | exact hM.2.2.2.1 | exact hM.2.2.2.2.1 | exact hM.2.2.2.2.2.1 | exact hM.2.2.2.2.2.2)) (hk := by omega) (hn := by omega) dX9_carries_125 ?_
      rw [hp.2.2.2]
      refine gx_iastN C (hG := (by first | exact hM.2.2.1 | exact hM.2.2.2.1 | exact hM.2.2.2.2.1 | exact hM.2.2.2.2.2.1 | exact hM.2.2.2.2.2.2)) (hk := by omega) (hn := by omega) dX9_carries_126 ?_
      refine gx_mdM hM (fun hM => ?_)
      have hW : ∀ G9 : gH, gMa D G0 G9 a (z0, z1, nI xs.length, z3) st pa ty (upd md (pF c9) (pSign c9)) rd → ∃ md' : Nat → Int32, gMa D G0 G9 a (z0, z1, nI (pCar xs c9).length, z3) st pa ty md' rd ∧ mdR md' (pCar xs c9) := by
        intro G9 hM
        exact ⟨_, by rw [pCar_2 k9, List.length_set]; exact hM, by rw [pCar_2 k9]; exact mdR_set hX⟩
      refine gx_goto (tgt := 169) C dX9_carries_127 (by decide) ?_
      refine gx_vret (mc := 0) C ?_ dX9_carries_169
      exact ⟨rfl, hW _ hM⟩
    -- else
    refine gx_split 3 (fun c_36_3 => ?_) (fun c_36_3 => ?_)
    · refine gx_tableIn (off := 94) (tgt := 130) C dX9_carries_36 (by rw [c_36_3]; decide) (by rw [c_36_3]; decide) (by rw [c_36_3]; rfl) (by decide) ?_
      have k9 : pKind c9 = 3 := c_36_3
      have e9 := pE_3 k9
      have h2 := h1 (by rw [k9]; decide)
      refine gx_aload_n C dX9_carries_130 rfl ?_
      refine gx_get C fd_X9_carries_19 (hG := hM.2.1) (hv := by rfl) dX9_carries_131 ?_
      refine gx_iload_n C dX9_carries_134 rfl ?_
      refine gx_aload_n C dX9_carries_135 rfl ?_
      refine gx_get C fd_X9_carries_19 (hG := hM.2.1) (hv := by rfl) dX9_carries_136 ?_
      refine gx_iload_n C dX9_carries_139 rfl ?_
      refine gx_iconst (v := nI 1) C dX9_carries_140 (by decide) ?_
      refine gx_iadd C dX9_carries_141 ?_
      first | refine gx_top (nI_add _ _) ?_ | skip
      refine gx_ialdN C (hG := (by first | exact hM.2.2.1 | exact hM.2.2.2.1 | exact hM.2.2.2.2.1 | exact hM.2.2.2.2.2.1 | exact hM.2.2.2.2.2.2)) (hk := by omega) (hn := by omega) dX9_carries_142 ?_
      rw [hX (pF c9 + 1) (by omega)]
      refine gx_iastN C (hG := (by first | exact hM.2.2.1 | exact hM.2.2.2.1 | exact hM.2.2.2.2.1 | exact hM.2.2.2.2.2.1 | exact hM.2.2.2.2.2.2)) (hk := by omega) (hn := by omega) dX9_carries_143 ?_
      refine gx_mdM hM (fun hM => ?_)
      refine gx_aload_n C dX9_carries_144 rfl ?_
      refine gx_get C fd_X9_carries_19 (hG := hM.2.1) (hv := by rfl) dX9_carries_145 ?_
      refine gx_iload_n C dX9_carries_148 rfl ?_
      refine gx_iconst (v := nI 1) C dX9_carries_149 (by decide) ?_
      refine gx_iadd C dX9_carries_150 ?_
      first | refine gx_top (nI_add _ _) ?_ | skip
      refine gx_iload_n C dX9_carries_151 rfl ?_
      refine gx_iastN C (hG := (by first | exact hM.2.2.1 | exact hM.2.2.2.1 | exact hM.2.2.2.2.1 | exact hM.2.2.2.2.2.1 | exact hM.2.2.2.2.2.2)) (hk := by omega) (hn := by omega) dX9_carries_152 ?_
      refine gx_mdM hM (fun hM => ?_)
      have hW : ∀ G9 : gH, gMa D G0 G9 a (z0, z1, nI xs.length, z3) st pa ty (upd (upd md (pF c9) (xs.getD (pF c9 + 1) 0)) (pF c9 + 1) (xs.getD (pF c9) 0)) rd → ∃ md' : Nat → Int32, gMa D G0 G9 a (z0, z1, nI (pCar xs c9).length, z3) st pa ty md' rd ∧ mdR md' (pCar xs c9) := by
        intro G9 hM
        exact ⟨_, by rw [pCar_3 k9, List.length_set, List.length_set]; exact hM, by rw [pCar_3 k9]; exact mdR_set (mdR_set hX)⟩
      refine gx_goto (tgt := 169) C dX9_carries_153 (by decide) ?_
      refine gx_vret (mc := 0) C ?_ dX9_carries_169
      exact ⟨rfl, hW _ hM⟩
    -- else
    refine gx_split 4 (fun c_36_4 => ?_) (fun c_36_4 => ?_)
    · refine gx_tableIn (off := 120) (tgt := 156) C dX9_carries_36 (by rw [c_36_4]; decide) (by rw [c_36_4]; decide) (by rw [c_36_4]; rfl) (by decide) ?_
      have k9 : pKind c9 = 4 := c_36_4
      have e9 : pE c9 = pF c9 + 1 := by rw [pE, if_neg (by rw [k9]; decide), if_neg (by rw [k9]; decide), if_neg (by rw [k9]; decide)]
      have h2 := h1 (by rw [k9]; decide)
      refine gx_aload_n C dX9_carries_156 rfl ?_
      refine gx_get C fd_X9_carries_19 (hG := hM.2.1) (hv := by rfl) dX9_carries_157 ?_
      refine gx_iload_n C dX9_carries_160 rfl ?_
      refine gx_iload_n C dX9_carries_161 rfl ?_
      refine gx_callS C (k9_other l D A hs (xs.getD (pF c9) 0)) cb_X9_carries__X9_other gX9_carries_X9_other rfl rfl (Nat.le_of_ble_eq_true rfl) ⟨Nat.le_refl _, Nat.le_refl _⟩ dX9_carries_162 (gx_ki fun r_162 G_162 h_162 => ?_)
      obtain ⟨rfl, rfl⟩ := h_162
      refine gx_iastN C (hG := (by first | exact hM.2.2.1 | exact hM.2.2.2.1 | exact hM.2.2.2.2.1 | exact hM.2.2.2.2.2.1 | exact hM.2.2.2.2.2.2)) (hk := by omega) (hn := by omega) dX9_carries_165 ?_
      refine gx_mdM hM (fun hM => ?_)
      have hW : ∀ G9 : gH, gMa D G0 G9 a (z0, z1, nI xs.length, z3) st pa ty (upd md (pF c9) (pOther (xs.getD (pF c9) 0))) rd → ∃ md' : Nat → Int32, gMa D G0 G9 a (z0, z1, nI (pCar xs c9).length, z3) st pa ty md' rd ∧ mdR md' (pCar xs c9) := by
        intro G9 hM
        exact ⟨_, by rw [pCar_4 k9, List.length_set]; exact hM, by rw [pCar_4 k9]; exact mdR_set hX⟩
      refine gx_goto (tgt := 169) C dX9_carries_166 (by decide) ?_
      refine gx_vret (mc := 0) C ?_ dX9_carries_169
      exact ⟨rfl, hW _ hM⟩
    -- else
    refine gx_tableOut (tgt := 169) C dX9_carries_36 (by have q_0 := gz_ne (n := 0) (by decide) c_36_0; have q_1 := gz_ne (n := 1) (by decide) c_36_1; have q_2 := gz_ne (n := 2) (by decide) c_36_2; have q_3 := gz_ne (n := 3) (by decide) c_36_3; have q_4 := gz_ne (n := 4) (by decide) c_36_4; omega) (by decide) ?_
    have k9 : pKind c9 = 5 := iOk_5 hc.1 c_36_0 c_36_1 c_36_2 c_36_3 c_36_4
    have hW : ∀ G9 : gH, gMa D G0 G9 a (z0, z1, nI xs.length, z3) st pa ty md rd → ∃ md' : Nat → Int32, gMa D G0 G9 a (z0, z1, nI (pCar xs c9).length, z3) st pa ty md' rd ∧ mdR md' (pCar xs c9) := by
      intro G9 hM
      exact ⟨md, by rw [pCar_5 k9]; exact hM, by rw [pCar_5 k9]; exact hX⟩
    refine gx_vret (mc := 0) C ?_ dX9_carries_169
    exact ⟨rfl, hW _ hM⟩
  refine gx_aload_n C dX9_carries_0 rfl ?_
  refine gx_get C fd_X9_carries_7 (hG := hM.2.1) (hv := by rfl) dX9_carries_1 ?_
  refine gx_iload_n C dX9_carries_4 rfl ?_
  refine gx_iconst (v := nI 1) C dX9_carries_5 (by decide) ?_
  refine gx_iadd C dX9_carries_6 ?_
  first | refine gx_top (nI_add _ _) ?_ | skip
  refine gx_ialdN C (hG := (by first | exact hM.2.2.1 | exact hM.2.2.2.1 | exact hM.2.2.2.2.1 | exact hM.2.2.2.2.2.1 | exact hM.2.2.2.2.2.2)) (hk := by omega) (hn := by omega) dX9_carries_7 ?_
  rw [hp.2.1, pFirst_nI]
  refine gx_istore_n C dX9_carries_8 (by decide) ?_
  refine gx_iload_n C dX9_carries_9 rfl ?_
  refine gx_aload_n C dX9_carries_10 rfl ?_
  refine gx_get C fd_X9_carries_122 (hG := hM.2.1) (hv := by rfl) dX9_carries_11 ?_
  refine gx_icmp_ge (tgt := 26) C dX9_carries_14 (by decide) (fun c_14 => ?_) (fun c_14 => ?_)
  · have ey : (0 : Int32) = xs.getD (pF c9) 0 := by
      have q : xs.length ≤ pF c9 := (nI_leI (by omega) (by omega)).mp c_14
      rw [List.getD_eq_getElem?_getD, List.getElem?_eq_none q]
      rfl
    refine gx_iconst (v := 0) C dX9_carries_26 (by decide) ?_
    exact gx_top ey hone
  · have hj : pF c9 < xs.length := by
      rcases Nat.lt_or_ge (pF c9) (xs.length) with q | q
      · exact q
      · exact absurd (nI_le q (by omega)) c_14
    have ey : md (pF c9) = xs.getD (pF c9) 0 := hX _ hj
    refine gx_aload_n C dX9_carries_17 rfl ?_
    refine gx_get C fd_X9_carries_19 (hG := hM.2.1) (hv := by rfl) dX9_carries_18 ?_
    refine gx_iload_n C dX9_carries_21 rfl ?_
    refine gx_ialdN C (hG := (by first | exact hM.2.2.1 | exact hM.2.2.2.1 | exact hM.2.2.2.2.1 | exact hM.2.2.2.2.2.1 | exact hM.2.2.2.2.2.2)) (hk := by omega) (hn := by omega) dX9_carries_22 ?_
    refine gx_goto (tgt := 27) C dX9_carries_23 (by decide) ?_
    exact gx_top ey hone
set_option maxHeartbeats 600000 in
set_option maxRecDepth 100000 in
/-- X9_makesOneByOne -/
theorem k9_makesOneByOne (l : Launch) (D : gD) (A : Nat → Prop) (hs : Nat) {G : gH} {G0 : gH} {a : Nat} {z0 z1 z2 : Int32} {z3 : Int32 × Int32 × Int32} {st pa ty md rd : Nat → Int32} {tx : List Int32} {li : ML} (hM : gMa D G0 G a (z0, z1, z2, z3) st pa ty md rd) (hT : sTx st tx) (hL : sLi st li tx.length) (hA : sAp li) : gM l yX9_makesOneByOne wsX9_makesOneByOne (gR 3) D A hs 0 0 [.ref a] G (gPv fun G' => ∃ md' : Nat → Int32, gMa D G0 G' a (z0, z1, nI (pTurn tx li.1 li.2.1).length, z3) st pa ty md' rd ∧ mdR md' (pTurn tx li.1 li.2.1)) := by
  refine gM_intro (by decide) rfl rfl (Nat.le_of_ble_eq_true rfl) ?_
  intro p e s m args below meth c C
  have l3 := hL.2.1
  have t2 := hT.2.1
  have hN := hL.2.2.2.2.2.1
  have hI9 : ∀ k : Nat, k < li.1.length → iOk (li.1.getD k 0) tx.length := fun k hk => (hL.2.2.2.2.2.2 k hk).2.1
  have hpt := pTurn_e (tx := tx) (li := li) hI9 t2 l3
  have hfl : ((mOr li tx.length li.1.length (tx.length + 1)).foldl pCar tx).length < 300 := by
    have q1 := @cars_le (mOr li tx.length li.1.length (tx.length + 1)) tx
    have q2 : (mOr li tx.length li.1.length (tx.length + 1)).length ≤ li.1.length := by
      rw [pTurns_e (L := tx.length) li.1.length (fun i hi _ => by rcases (hI9 i hi).1 with q | q | q | q | q | q <;> omega)]
      exact pTurns_n
    omega
  have hK : ∀ (pos tn : Nat) (P : List Int32), pos < 1000 → tn < 2 → (∀ j : Nat, j < li.1.length → (li.2.1.getD j 0 = 1 ∧ pF (li.1.getD j 0) = pos ∧ (pKind (li.1.getD j 0) = 1 ↔ tn = 1)) → ((P ++ mBk li pos tn j).foldl pCar tx).length < 164 ∧ (¬ pKind (li.1.getD j 0) = 5 → pE (li.1.getD j 0) ≤ ((P ++ mBk li pos tn j).foldl pCar tx).length)) → (∀ (G2 : gH) (o4 o5 : Option Value) (md2 : Nat → Int32), gMa D G0 G2 a (z0, z1, nI ((P ++ mBk li pos tn li.1.length).foldl pCar tx).length, z3) st pa ty md2 rd ∧ mdR md2 ((P ++ mBk li pos tn li.1.length).foldl pCar tx) → gX p l e (gR 3) s m args below meth c D A 6 hs 0 0 (MQ below (gQ D A hs 0 (gPv fun G' => ∃ md' : Nat → Int32, gMa D G0 G' a (z0, z1, nI (pTurn tx li.1 li.2.1).length, z3) st pa ty md' rd ∧ mdR md' (pTurn tx li.1 li.2.1))) args s 0 0 A) G2 [some (.ref a), some (.int (nI pos)), some (.int (nI tn)), some (.int (nI li.1.length)), o4, o5] 153 []) → ∀ (G1 : gH) (o4 o5 : Option Value) (md1 : Nat → Int32), gMa D G0 G1 a (z0, z1, nI ((P).foldl pCar tx).length, z3) st pa ty md1 rd ∧ mdR md1 ((P).foldl pCar tx) → gX p l e (gR 3) s m args below meth c D A 6 hs 0 0 (MQ below (gQ D A hs 0 (gPv fun G' => ∃ md' : Nat → Int32, gMa D G0 G' a (z0, z1, nI (pTurn tx li.1 li.2.1).length, z3) st pa ty md' rd ∧ mdR md' (pTurn tx li.1 li.2.1))) args s 0 0 A) G1 [some (.ref a), some (.int (nI pos)), some (.int (nI tn)), some (.int (nI 0)), o4, o5] 61 [] := by
    intro pos tn P hpos htn hok hend
    have hin : ∀ (n j : Nat) (G1 : gH) (o4 o5 : Option Value) (md1 : Nat → Int32), li.1.length < j + n → j ≤ li.1.length → gMa D G0 G1 a (z0, z1, nI ((P ++ mBk li pos tn j).foldl pCar tx).length, z3) st pa ty md1 rd ∧ mdR md1 ((P ++ mBk li pos tn j).foldl pCar tx) → gX p l e (gR 3) s m args below meth c D A 6 hs 0 0 (MQ below (gQ D A hs 0 (gPv fun G' => ∃ md' : Nat → Int32, gMa D G0 G' a (z0, z1, nI (pTurn tx li.1 li.2.1).length, z3) st pa ty md' rd ∧ mdR md' (pTurn tx li.1 li.2.1))) args s 0 0 A) G1 [some (.ref a), some (.int (nI pos)), some (.int (nI tn)), some (.int (nI j)), o4, o5] 61 [] := by
      intro n
      induction n with
      | zero => intro j G1 o4 o5 md1 hm hj0 hI; exact absurd hm (by omega)
      | succ n ih =>
        intro j G1 o4 o5 md1 hm hj0 hI
        have hM := hI.1
        have hX := hI.2
        refine gx_iload_n C dX9_makesOneByOne_61 rfl ?_
        refine gx_aload_n C dX9_makesOneByOne_62 rfl ?_
        refine gx_get C fd_X9_makesOneByOne_7 (hG := hM.2.1) (hv := by rfl) dX9_makesOneByOne_63 ?_
        refine gx_iconst (v := nI 3) C dX9_makesOneByOne_66 (by decide) ?_
        refine gx_ialdN C (hG := (by first | exact hM.2.2.1 | exact hM.2.2.2.1 | exact hM.2.2.2.2.1 | exact hM.2.2.2.2.2.1 | exact hM.2.2.2.2.2.2)) (hk := by omega) (hn := by omega) dX9_makesOneByOne_67 ?_
        rw [hL.1]
        refine gx_icmp_ge (tgt := 153) C dX9_makesOneByOne_68 (by decide) (fun c_68 => ?_) (fun c_68 => ?_)
        · have hj : ¬ j < li.1.length := fun q => nI_ge q (by omega) c_68
          obtain rfl : j = li.1.length := by omega
          exact hend _ _ _ _ hI
        · have hj : j < li.1.length := by
            rcases Nat.lt_or_ge (j) (li.1.length) with q | q
            · exact q
            · exact absurd (nI_le q (by omega)) c_68
          have lj := hL.2.2.2.2.2.2 j hj
          have u1 := pF_lt (li.1.getD j 0)
          have hJ : gX p l e (gR 3) s m args below meth c D A 6 hs 0 0 (MQ below (gQ D A hs 0 (gPv fun G' => ∃ md' : Nat → Int32, gMa D G0 G' a (z0, z1, nI (pTurn tx li.1 li.2.1).length, z3) st pa ty md' rd ∧ mdR md' (pTurn tx li.1 li.2.1))) args s 0 0 A) G1 [some (.ref a), some (.int (nI pos)), some (.int (nI tn)), some (.int (nI j)), some (.int (nI (407 + 7 * j))), o5] 113 [.int (if (pKind (li.1.getD j 0) = 1 ↔ tn = 1) then (1 : Int32) else 0)] := by
            refine gx_istore C dX9_makesOneByOne_113 (by decide) ?_
            refine gx_aload_n C dX9_makesOneByOne_115 rfl ?_
            refine gx_iload_n C dX9_makesOneByOne_116 rfl ?_
            refine gx_callV (ci := 8) (T := TX9) (N := 11) C (k9_isAccepted l D A hs hM.2.1 hM.2.2.1 hL j hj) cb_X9_makesOneByOne__X9_isAccepted gX9_makesOneByOne_X9_isAccepted rfl (hG := hM.2.1) rfl rfl (Nat.le_of_ble_eq_true rfl) ⟨Nat.le_refl _, Nat.le_refl _⟩ dX9_makesOneByOne_117 (gx_ki fun r_117 G_117 h_117 => ?_)
            obtain ⟨rfl, rfl⟩ := h_117
            refine gx_if_eq (tgt := 147) C dX9_makesOneByOne_120 (by decide) (fun c_120 => ?_) (fun c_120 => ?_)
            · have hx : ((P ++ mBk li pos tn (j + 1)).foldl pCar tx) = ((P ++ mBk li pos tn j).foldl pCar tx) := by rw [mBk_n (fun q => gz_if0 c_120 q.1)]
              first | refine gx_iincN C dX9_makesOneByOne_147 rfl (by decide) ?_ | refine gx_iinc1 C dX9_makesOneByOne_147 rfl (by decide) ?_
              refine gx_goto (tgt := 61) C dX9_makesOneByOne_150 (by decide) ?_
              exact ih (j + 1) _ _ _ _ (by omega) (by omega) ⟨by rw [hx]; exact hM, by rw [hx]; exact hX⟩
            · refine gx_aload_n C dX9_makesOneByOne_123 rfl ?_
              refine gx_get C fd_X9_makesOneByOne_7 (hG := hM.2.1) (hv := by rfl) dX9_makesOneByOne_124 ?_
              refine gx_iload C dX9_makesOneByOne_127 rfl ?_
              refine gx_iconst (v := nI 1) C dX9_makesOneByOne_129 (by decide) ?_
              refine gx_iadd C dX9_makesOneByOne_130 ?_
              first | refine gx_top (nI_add _ _) ?_ | skip
              refine gx_ialdN C (hG := (by first | exact hM.2.2.1 | exact hM.2.2.2.1 | exact hM.2.2.2.2.1 | exact hM.2.2.2.2.2.1 | exact hM.2.2.2.2.2.2)) (hk := by omega) (hn := by omega) dX9_makesOneByOne_131 ?_
              rw [lj.1.2.1, pFirst_nI]
              refine gx_iload_n C dX9_makesOneByOne_132 rfl ?_
              refine gx_icmp_ne (tgt := 147) C dX9_makesOneByOne_133 (by decide) (fun c_133 => ?_) (fun c_133 => ?_)
              · have hx : ((P ++ mBk li pos tn (j + 1)).foldl pCar tx) = ((P ++ mBk li pos tn j).foldl pCar tx) := by rw [mBk_n (fun q => c_133 (by rw [q.2.1]))]
                first | refine gx_iincN C dX9_makesOneByOne_147 rfl (by decide) ?_ | refine gx_iinc1 C dX9_makesOneByOne_147 rfl (by decide) ?_
                refine gx_goto (tgt := 61) C dX9_makesOneByOne_150 (by decide) ?_
                exact ih (j + 1) _ _ _ _ (by omega) (by omega) ⟨by rw [hx]; exact hM, by rw [hx]; exact hX⟩
              · refine gx_iload C dX9_makesOneByOne_136 rfl ?_
                refine gx_if_eq (tgt := 147) C dX9_makesOneByOne_138 (by decide) (fun c_138 => ?_) (fun c_138 => ?_)
                · have hx : ((P ++ mBk li pos tn (j + 1)).foldl pCar tx) = ((P ++ mBk li pos tn j).foldl pCar tx) := by rw [mBk_n (fun q => gz_if0 c_138 q.2.2)]
                  first | refine gx_iincN C dX9_makesOneByOne_147 rfl (by decide) ?_ | refine gx_iinc1 C dX9_makesOneByOne_147 rfl (by decide) ?_
                  refine gx_goto (tgt := 61) C dX9_makesOneByOne_150 (by decide) ?_
                  exact ih (j + 1) _ _ _ _ (by omega) (by omega) ⟨by rw [hx]; exact hM, by rw [hx]; exact hX⟩
                · have cnd : li.2.1.getD j 0 = 1 ∧ pF (li.1.getD j 0) = pos ∧ (pKind (li.1.getD j 0) = 1 ↔ tn = 1) := ⟨gz_if1 c_120, (nI_eq (by omega) (by omega)).mp c_133, gz_if1 c_138⟩
                  have hx : ((P ++ mBk li pos tn (j + 1)).foldl pCar tx) = pCar ((P ++ mBk li pos tn j).foldl pCar tx) (li.1.getD j 0) := by
                    rw [mBk, if_pos cnd, ← List.append_assoc, List.foldl_append]
                    rfl
                  refine gx_aload_n C dX9_makesOneByOne_141 rfl ?_
                  refine gx_iload C dX9_makesOneByOne_142 rfl ?_
                  refine gx_callV (ci := 8) (T := TX9) (N := 11) C (k9_carries l D A hs hM hX lj.1 (by omega) lj.2.1 (hok j hj cnd).2 (hok j hj cnd).1) cb_X9_makesOneByOne__X9_carries gX9_makesOneByOne_X9_carries rfl (hG := hM.2.1) rfl rfl (Nat.le_of_ble_eq_true rfl) ⟨Nat.le_refl _, Nat.le_refl _⟩ dX9_makesOneByOne_144 (gx_kv fun G_144 h_144 => ?_)
                  obtain ⟨md2, hM, hX⟩ := h_144
                  first | refine gx_iincN C dX9_makesOneByOne_147 rfl (by decide) ?_ | refine gx_iinc1 C dX9_makesOneByOne_147 rfl (by decide) ?_
                  refine gx_goto (tgt := 61) C dX9_makesOneByOne_150 (by decide) ?_
                  exact ih (j + 1) _ _ _ _ (by omega) (by omega) ⟨by rw [hx]; exact hM, by rw [hx]; exact hX⟩
          refine gx_iload_n C dX9_makesOneByOne_71 rfl ?_
          refine gx_callS C (k9_listed l D A hs j) cb_X9_makesOneByOne__X9_listed gX9_makesOneByOne_X9_listed rfl rfl (Nat.le_of_ble_eq_true rfl) ⟨Nat.le_refl _, Nat.le_refl _⟩ dX9_makesOneByOne_72 (gx_ki fun r_72 G_72 h_72 => ?_)
          obtain ⟨rfl, rfl⟩ := h_72
          refine gx_istore C dX9_makesOneByOne_75 (by decide) ?_
          refine gx_aload_n C dX9_makesOneByOne_77 rfl ?_
          refine gx_get C fd_X9_makesOneByOne_7 (hG := hM.2.1) (hv := by rfl) dX9_makesOneByOne_78 ?_
          refine gx_iload C dX9_makesOneByOne_81 rfl ?_
          refine gx_iconst (v := nI 0) C dX9_makesOneByOne_83 (by decide) ?_
          refine gx_iadd C dX9_makesOneByOne_84 ?_
          first | refine gx_top (nI_add _ _) ?_ | skip
          refine gx_ialdN C (hG := (by first | exact hM.2.2.1 | exact hM.2.2.2.1 | exact hM.2.2.2.2.1 | exact hM.2.2.2.2.2.1 | exact hM.2.2.2.2.2.2)) (hk := by omega) (hn := by omega) dX9_makesOneByOne_85 ?_
          rw [show st (407 + 7 * j + 0) = _ from lj.1.1]
          refine gx_iconst (v := 1) C dX9_makesOneByOne_86 (by decide) ?_
          refine gx_icmp_ne (tgt := 94) C dX9_makesOneByOne_87 (by decide) (fun c_87 => ?_) (fun c_87 => ?_)
          · refine gx_iconst (v := 0) C dX9_makesOneByOne_94 (by decide) ?_
            refine gx_iload_n C dX9_makesOneByOne_95 rfl ?_
            refine gx_iconst (v := 1) C dX9_makesOneByOne_96 (by decide) ?_
            refine gx_icmp_ne (tgt := 104) C dX9_makesOneByOne_97 (by decide) (fun c_97 => ?_) (fun c_97 => ?_)
            · refine gx_iconst (v := 0) C dX9_makesOneByOne_104 (by decide) ?_
              refine gx_icmp_ne (tgt := 112) C dX9_makesOneByOne_105 (by decide) (fun c_105 => ?_) (fun c_105 => ?_)
              · refine gx_iconst (v := 0) C dX9_makesOneByOne_112 (by decide) ?_
                first
                | exact absurd rfl c_105
                | exact absurd c_105 (by decide)
                | exact gx_top (tk_a htn c_87 c_97) hJ
                | exact gx_top (tk_b htn c_87 c_97) hJ
                | exact gx_top (tk_c htn c_87 c_97) hJ
                | exact gx_top (tk_d htn c_87 c_97) hJ
              · refine gx_iconst (v := 1) C dX9_makesOneByOne_108 (by decide) ?_
                refine gx_goto (tgt := 113) C dX9_makesOneByOne_109 (by decide) ?_
                first
                | exact absurd rfl c_105
                | exact absurd c_105 (by decide)
                | exact gx_top (tk_a htn c_87 c_97) hJ
                | exact gx_top (tk_b htn c_87 c_97) hJ
                | exact gx_top (tk_c htn c_87 c_97) hJ
                | exact gx_top (tk_d htn c_87 c_97) hJ
            · refine gx_iconst (v := 1) C dX9_makesOneByOne_100 (by decide) ?_
              refine gx_goto (tgt := 105) C dX9_makesOneByOne_101 (by decide) ?_
              refine gx_icmp_ne (tgt := 112) C dX9_makesOneByOne_105 (by decide) (fun c_105 => ?_) (fun c_105 => ?_)
              · refine gx_iconst (v := 0) C dX9_makesOneByOne_112 (by decide) ?_
                first
                | exact absurd rfl c_105
                | exact absurd c_105 (by decide)
                | exact gx_top (tk_a htn c_87 c_97) hJ
                | exact gx_top (tk_b htn c_87 c_97) hJ
                | exact gx_top (tk_c htn c_87 c_97) hJ
                | exact gx_top (tk_d htn c_87 c_97) hJ
              · refine gx_iconst (v := 1) C dX9_makesOneByOne_108 (by decide) ?_
                refine gx_goto (tgt := 113) C dX9_makesOneByOne_109 (by decide) ?_
                first
                | exact absurd rfl c_105
                | exact absurd c_105 (by decide)
                | exact gx_top (tk_a htn c_87 c_97) hJ
                | exact gx_top (tk_b htn c_87 c_97) hJ
                | exact gx_top (tk_c htn c_87 c_97) hJ
                | exact gx_top (tk_d htn c_87 c_97) hJ
          · refine gx_iconst (v := 1) C dX9_makesOneByOne_90 (by decide) ?_
            refine gx_goto (tgt := 95) C dX9_makesOneByOne_91 (by decide) ?_
            refine gx_iload_n C dX9_makesOneByOne_95 rfl ?_
            refine gx_iconst (v := 1) C dX9_makesOneByOne_96 (by decide) ?_
            refine gx_icmp_ne (tgt := 104) C dX9_makesOneByOne_97 (by decide) (fun c_97 => ?_) (fun c_97 => ?_)
            · refine gx_iconst (v := 0) C dX9_makesOneByOne_104 (by decide) ?_
              refine gx_icmp_ne (tgt := 112) C dX9_makesOneByOne_105 (by decide) (fun c_105 => ?_) (fun c_105 => ?_)
              · refine gx_iconst (v := 0) C dX9_makesOneByOne_112 (by decide) ?_
                first
                | exact absurd rfl c_105
                | exact absurd c_105 (by decide)
                | exact gx_top (tk_a htn c_87 c_97) hJ
                | exact gx_top (tk_b htn c_87 c_97) hJ
                | exact gx_top (tk_c htn c_87 c_97) hJ
                | exact gx_top (tk_d htn c_87 c_97) hJ
              · refine gx_iconst (v := 1) C dX9_makesOneByOne_108 (by decide) ?_
                refine gx_goto (tgt := 113) C dX9_makesOneByOne_109 (by decide) ?_
                first
                | exact absurd rfl c_105
                | exact absurd c_105 (by decide)
                | exact gx_top (tk_a htn c_87 c_97) hJ
                | exact gx_top (tk_b htn c_87 c_97) hJ
                | exact gx_top (tk_c htn c_87 c_97) hJ
                | exact gx_top (tk_d htn c_87 c_97) hJ
            · refine gx_iconst (v := 1) C dX9_makesOneByOne_100 (by decide) ?_
              refine gx_goto (tgt := 105) C dX9_makesOneByOne_101 (by decide) ?_
              refine gx_icmp_ne (tgt := 112) C dX9_makesOneByOne_105 (by decide) (fun c_105 => ?_) (fun c_105 => ?_)
              · refine gx_iconst (v := 0) C dX9_makesOneByOne_112 (by decide) ?_
                first
                | exact absurd rfl c_105
                | exact absurd c_105 (by decide)
                | exact gx_top (tk_a htn c_87 c_97) hJ
                | exact gx_top (tk_b htn c_87 c_97) hJ
                | exact gx_top (tk_c htn c_87 c_97) hJ
                | exact gx_top (tk_d htn c_87 c_97) hJ
              · refine gx_iconst (v := 1) C dX9_makesOneByOne_108 (by decide) ?_
                refine gx_goto (tgt := 113) C dX9_makesOneByOne_109 (by decide) ?_
                first
                | exact absurd rfl c_105
                | exact absurd c_105 (by decide)
                | exact gx_top (tk_a htn c_87 c_97) hJ
                | exact gx_top (tk_b htn c_87 c_97) hJ
                | exact gx_top (tk_c htn c_87 c_97) hJ
                | exact gx_top (tk_d htn c_87 c_97) hJ
    intro G1 o4 o5 md1 hI0
    exact hin (li.1.length + 1) 0 G1 o4 o5 md1 (by omega) (by omega) (by rw [show P ++ mBk li pos tn 0 = P from List.append_nil _]; exact hI0)
  have hout : ∀ (n i : Nat) (G1 : gH) (o2 o3 o4 o5 : Option Value) (md1 : Nat → Int32), tx.length + 1 < i + n → i ≤ tx.length + 1 → gMa D G0 G1 a (z0, z1, nI ((mOr li tx.length li.1.length i).foldl pCar tx).length, z3) st pa ty md1 rd ∧ mdR md1 ((mOr li tx.length li.1.length i).foldl pCar tx) → gX p l e (gR 3) s m args below meth c D A 6 hs 0 0 (MQ below (gQ D A hs 0 (gPv fun G' => ∃ md' : Nat → Int32, gMa D G0 G' a (z0, z1, nI (pTurn tx li.1 li.2.1).length, z3) st pa ty md' rd ∧ mdR md' (pTurn tx li.1 li.2.1))) args s 0 0 A) G1 [some (.ref a), some (.int (nI tx.length - nI i)), o2, o3, o4, o5] 48 [] := by
    intro n
    induction n with
    | zero => intro i G1 o2 o3 o4 o5 md1 hm hj0 hI2; exact absurd hm (by omega)
    | succ n ih =>
      intro i G1 o2 o3 o4 o5 md1 hm hj0 hI2
      refine gx_iload_n C dX9_makesOneByOne_48 rfl ?_
      refine gx_if_lt (tgt := 165) C dX9_makesOneByOne_49 (by decide) (fun c_49 => ?_) (fun c_49 => ?_)
      · obtain rfl : i = tx.length + 1 := by
          have : ¬ i ≤ tx.length := fun q => (sh_p (by omega) (by omega)).mpr q c_49
          omega
        have hM := hI2.1
        have hX := hI2.2
        refine gx_aload_n C dX9_makesOneByOne_165 rfl ?_
        refine gx_aload_n C dX9_makesOneByOne_166 rfl ?_
        refine gx_get C fd_X9_makesOneByOne_122 (hG := hM.2.1) (hv := by rfl) dX9_makesOneByOne_167 ?_
        refine gx_bipush (v := nI 100) C dX9_makesOneByOne_170 (by decide) ?_
        refine gx_icmp_le (tgt := 180) C dX9_makesOneByOne_172 (by decide) (fun c_172 => ?_) (fun c_172 => ?_)
        · have hc : ((mOr li tx.length li.1.length (tx.length + 1)).foldl pCar tx).length ≤ 100 := (nI_leI (by omega) (by omega)).mp c_172
          have ht : pTurn tx li.1 li.2.1 = ((mOr li tx.length li.1.length (tx.length + 1)).foldl pCar tx) := hpt.trans (List.take_of_length_le hc)
          refine gx_aload_n C dX9_makesOneByOne_180 rfl ?_
          refine gx_get C fd_X9_makesOneByOne_122 (hG := hM.2.1) (hv := by rfl) dX9_makesOneByOne_181 ?_
          refine gx_put C fd_X9_makesOneByOne_122 tyX9_ok nmX9 rfl rfl rfl (hG := hM.2.1) (hl := by exact Nat.le_of_ble_eq_true rfl) dX9_makesOneByOne_184 ?_
          first
          | refine gx_obM (z0, z1, nI 100, z3) hM rfl (fun hM => ?_)
          | refine gx_obM (z0, z1, nI ((mOr li tx.length li.1.length (tx.length + 1)).foldl pCar tx).length, z3) hM rfl (fun hM => ?_)
          refine gx_vret (mc := 0) C ?_ dX9_makesOneByOne_187
          first
          | exact ⟨rfl, _, by rw [ht]; exact hM, by rw [ht]; exact hX⟩
          | exact ⟨rfl, _, by rw [ht]; exact hM, by rw [hpt]; exact mdR_t hX⟩
        · have hc : ¬ ((mOr li tx.length li.1.length (tx.length + 1)).foldl pCar tx).length ≤ 100 := fun q => c_172 (nI_le q (by omega))
          have ht : (pTurn tx li.1 li.2.1).length = 100 := by
            rw [hpt, List.length_take]
            omega
          refine gx_bipush (v := nI 100) C dX9_makesOneByOne_175 (by decide) ?_
          refine gx_goto (tgt := 184) C dX9_makesOneByOne_177 (by decide) ?_
          refine gx_put C fd_X9_makesOneByOne_122 tyX9_ok nmX9 rfl rfl rfl (hG := hM.2.1) (hl := by exact Nat.le_of_ble_eq_true rfl) dX9_makesOneByOne_184 ?_
          first
          | refine gx_obM (z0, z1, nI 100, z3) hM rfl (fun hM => ?_)
          | refine gx_obM (z0, z1, nI ((mOr li tx.length li.1.length (tx.length + 1)).foldl pCar tx).length, z3) hM rfl (fun hM => ?_)
          refine gx_vret (mc := 0) C ?_ dX9_makesOneByOne_187
          first
          | exact ⟨rfl, _, by rw [ht]; exact hM, by rw [ht]; exact hX⟩
          | exact ⟨rfl, _, by rw [ht]; exact hM, by rw [hpt]; exact mdR_t hX⟩
      · have hi : i ≤ tx.length := (sh_p (by omega) (by omega)).mp c_49
        refine gx_V (V' := [some (.ref a), some (.int (nI (tx.length - i))), o2, o3, o4, o5]) (by rw [pk_sub hi]) ?_
        have hc2 : ∀ (G2 : gH) (o4 o5 : Option Value) (md2 : Nat → Int32), gMa D G0 G2 a (z0, z1, nI (((mOr li tx.length li.1.length i ++ mBk li (tx.length - i) 0 li.1.length) ++ mBk li (tx.length - i) 1 li.1.length).foldl pCar tx).length, z3) st pa ty md2 rd ∧ mdR md2 (((mOr li tx.length li.1.length i ++ mBk li (tx.length - i) 0 li.1.length) ++ mBk li (tx.length - i) 1 li.1.length).foldl pCar tx) → gX p l e (gR 3) s m args below meth c D A 6 hs 0 0 (MQ below (gQ D A hs 0 (gPv fun G' => ∃ md' : Nat → Int32, gMa D G0 G' a (z0, z1, nI (pTurn tx li.1 li.2.1).length, z3) st pa ty md' rd ∧ mdR md' (pTurn tx li.1 li.2.1))) args s 0 0 A) G2 [some (.ref a), some (.int (nI (tx.length - i))), some (.int (nI 1)), some (.int (nI li.1.length)), o4, o5] 153 [] := by
          intro G2 o4 o5 md2 hI2
          first | refine gx_iincN C dX9_makesOneByOne_153 rfl (by decide) ?_ | refine gx_iinc1 C dX9_makesOneByOne_153 rfl (by decide) ?_
          refine gx_goto (tgt := 54) C dX9_makesOneByOne_156 (by decide) ?_
          refine gx_iload_n C dX9_makesOneByOne_54 rfl ?_
          refine gx_iconst (v := 2) C dX9_makesOneByOne_55 (by decide) ?_
          refine gx_icmp_ge (tgt := 159) C dX9_makesOneByOne_56 (by decide) (fun c_56 => ?_) (fun c_56 => ?_)
          · refine gx_iincm C dX9_makesOneByOne_159 rfl (by decide) ?_
            refine gx_goto (tgt := 48) C dX9_makesOneByOne_162 (by decide) ?_
            refine gx_V ?_ (ih (i + 1) _ (some (.int (nI (1 + 1)))) (some (.int (nI li.1.length))) o4 o5 _ (by omega) (by omega) hI2)
            show [_, some (Value.int (nI (tx.length - i) + (-1))), _, _, _, _] = _
            rw [← pk_sub hi, sh_c, show nI i + 1 = nI (i + 1) from nI_add i 1]
          · exact absurd (by decide) c_56
        have hc1 : ∀ (G2 : gH) (o4 o5 : Option Value) (md2 : Nat → Int32), gMa D G0 G2 a (z0, z1, nI ((mOr li tx.length li.1.length i ++ mBk li (tx.length - i) 0 li.1.length).foldl pCar tx).length, z3) st pa ty md2 rd ∧ mdR md2 ((mOr li tx.length li.1.length i ++ mBk li (tx.length - i) 0 li.1.length).foldl pCar tx) → gX p l e (gR 3) s m args below meth c D A 6 hs 0 0 (MQ below (gQ D A hs 0 (gPv fun G' => ∃ md' : Nat → Int32, gMa D G0 G' a (z0, z1, nI (pTurn tx li.1 li.2.1).length, z3) st pa ty md' rd ∧ mdR md' (pTurn tx li.1 li.2.1))) args s 0 0 A) G2 [some (.ref a), some (.int (nI (tx.length - i))), some (.int (nI 0)), some (.int (nI li.1.length)), o4, o5] 153 [] := by
          intro G2 o4 o5 md2 hI2
          first | refine gx_iincN C dX9_makesOneByOne_153 rfl (by decide) ?_ | refine gx_iinc1 C dX9_makesOneByOne_153 rfl (by decide) ?_
          refine gx_goto (tgt := 54) C dX9_makesOneByOne_156 (by decide) ?_
          refine gx_iload_n C dX9_makesOneByOne_54 rfl ?_
          refine gx_iconst (v := 2) C dX9_makesOneByOne_55 (by decide) ?_
          refine gx_icmp_ge (tgt := 159) C dX9_makesOneByOne_56 (by decide) (fun c_56 => ?_) (fun c_56 => ?_)
          · exact absurd c_56 (by decide)
          · refine gx_iconst (v := 0) C dX9_makesOneByOne_59 (by decide) ?_
            refine gx_istore_n C dX9_makesOneByOne_60 (by decide) ?_
            exact hK (tx.length - i) 1 (mOr li tx.length li.1.length i ++ mBk li (tx.length - i) 0 li.1.length) (by omega) (by omega) (fun j hj cnd => by
              obtain ⟨S, e⟩ := mOr_sp1 hi hj cnd
              exact turn_ok hA hN hI9 t2 l3 e) hc2 _ _ _ _ hI2
        refine gx_iconst (v := 0) C dX9_makesOneByOne_52 (by decide) ?_
        refine gx_istore_n C dX9_makesOneByOne_53 (by decide) ?_
        refine gx_iload_n C dX9_makesOneByOne_54 rfl ?_
        refine gx_iconst (v := 2) C dX9_makesOneByOne_55 (by decide) ?_
        refine gx_icmp_ge (tgt := 159) C dX9_makesOneByOne_56 (by decide) (fun c_56 => ?_) (fun c_56 => ?_)
        · exact absurd c_56 (by decide)
        · refine gx_iconst (v := 0) C dX9_makesOneByOne_59 (by decide) ?_
          refine gx_istore_n C dX9_makesOneByOne_60 (by decide) ?_
          exact hK (tx.length - i) 0 (mOr li tx.length li.1.length i) (by omega) (by omega) (fun j hj cnd => by
            obtain ⟨S, e⟩ := mOr_sp0 hi hj cnd
            exact turn_ok hA hN hI9 t2 l3 e) hc1 _ _ _ _ hI2
  have hcp : ∀ (n j : Nat) (G1 : gH) (md1 : Nat → Int32), tx.length < j + n → j ≤ tx.length → gMa D G0 G1 a (z0, z1, nI tx.length, z3) st pa ty md1 rd ∧ (∀ i : Nat, i < j → md1 i = tx.getD i 0) → gX p l e (gR 3) s m args below meth c D A 6 hs 0 0 (MQ below (gQ D A hs 0 (gPv fun G' => ∃ md' : Nat → Int32, gMa D G0 G' a (z0, z1, nI (pTurn tx li.1 li.2.1).length, z3) st pa ty md' rd ∧ mdR md' (pTurn tx li.1 li.2.1))) args s 0 0 A) G1 [some (.ref a), some (.int (nI j)), none, none, none, none] 12 [] := by
    intro n
    induction n with
    | zero => intro j G1 md1 hm hj0 hI; exact absurd hm (by omega)
    | succ n ih =>
      intro j G1 md1 hm hj0 hI
      have hM := hI.1
      refine gx_iload_n C dX9_makesOneByOne_12 rfl ?_
      refine gx_aload_n C dX9_makesOneByOne_13 rfl ?_
      refine gx_get C fd_X9_makesOneByOne_122 (hG := hM.2.1) (hv := by rfl) dX9_makesOneByOne_14 ?_
      refine gx_icmp_ge (tgt := 41) C dX9_makesOneByOne_17 (by decide) (fun c_17 => ?_) (fun c_17 => ?_)
      · have hj : ¬ j < tx.length := fun q => nI_ge q (by omega) c_17
        refine gx_aload_n C dX9_makesOneByOne_41 rfl ?_
        refine gx_get C fd_X9_makesOneByOne_7 (hG := hM.2.1) (hv := by rfl) dX9_makesOneByOne_42 ?_
        refine gx_iconst (v := nI 0) C dX9_makesOneByOne_45 (by decide) ?_
        refine gx_ialdN C (hG := (by first | exact hM.2.2.1 | exact hM.2.2.2.1 | exact hM.2.2.2.2.1 | exact hM.2.2.2.2.2.1 | exact hM.2.2.2.2.2.2)) (hk := by omega) (hn := by omega) dX9_makesOneByOne_46 ?_
        rw [hT.1]
        refine gx_istore_n C dX9_makesOneByOne_47 (by decide) ?_
        obtain rfl : j = tx.length := by omega
        refine gx_V ?_ (hout (tx.length + 2) 0 _ none none none none _ (by omega) (by omega) ⟨hM, hI.2⟩)
        show [_, some (Value.int (nI tx.length)), _, _, _, _] = _
        rw [pk_sub (Nat.zero_le _), Nat.sub_zero]
      · have hj : j < tx.length := by
          rcases Nat.lt_or_ge (j) (tx.length) with q | q
          · exact q
          · exact absurd (nI_le q (by omega)) c_17
        refine gx_aload_n C dX9_makesOneByOne_20 rfl ?_
        refine gx_get C fd_X9_makesOneByOne_19 (hG := hM.2.1) (hv := by rfl) dX9_makesOneByOne_21 ?_
        refine gx_iload_n C dX9_makesOneByOne_24 rfl ?_
        refine gx_aload_n C dX9_makesOneByOne_25 rfl ?_
        refine gx_get C fd_X9_makesOneByOne_7 (hG := hM.2.1) (hv := by rfl) dX9_makesOneByOne_26 ?_
        refine gx_bipush (v := nI 27) C dX9_makesOneByOne_29 (by decide) ?_
        refine gx_iload_n C dX9_makesOneByOne_31 rfl ?_
        refine gx_iadd C dX9_makesOneByOne_32 ?_
        first | refine gx_top (nI_add _ _) ?_ | skip
        refine gx_ialdN C (hG := (by first | exact hM.2.2.1 | exact hM.2.2.2.1 | exact hM.2.2.2.2.1 | exact hM.2.2.2.2.2.1 | exact hM.2.2.2.2.2.2)) (hk := by omega) (hn := by omega) dX9_makesOneByOne_33 ?_
        rw [(hT.2.2 j hj).1]
        refine gx_iastN C (hG := (by first | exact hM.2.2.1 | exact hM.2.2.2.1 | exact hM.2.2.2.2.1 | exact hM.2.2.2.2.2.1 | exact hM.2.2.2.2.2.2)) (hk := by omega) (hn := by omega) dX9_makesOneByOne_34 ?_
        refine gx_mdM hM (fun hM => ?_)
        first | refine gx_iincN C dX9_makesOneByOne_35 rfl (by decide) ?_ | refine gx_iinc1 C dX9_makesOneByOne_35 rfl (by decide) ?_
        refine gx_goto (tgt := 12) C dX9_makesOneByOne_38 (by decide) ?_
        refine ih (j + 1) _ _ (by omega) (by omega) ⟨hM, fun i hi => ?_⟩
        by_cases q : i = j
        · subst q
          exact pk_us
        · rw [pk_un q]
          exact hI.2 i (by omega)
  refine gx_aload_n C dX9_makesOneByOne_0 rfl ?_
  refine gx_aload_n C dX9_makesOneByOne_1 rfl ?_
  refine gx_get C fd_X9_makesOneByOne_7 (hG := hM.2.1) (hv := by rfl) dX9_makesOneByOne_2 ?_
  refine gx_iconst (v := nI 0) C dX9_makesOneByOne_5 (by decide) ?_
  refine gx_ialdN C (hG := (by first | exact hM.2.2.1 | exact hM.2.2.2.1 | exact hM.2.2.2.2.1 | exact hM.2.2.2.2.2.1 | exact hM.2.2.2.2.2.2)) (hk := by omega) (hn := by omega) dX9_makesOneByOne_6 ?_
  rw [hT.1]
  refine gx_put C fd_X9_makesOneByOne_122 tyX9_ok nmX9 rfl rfl rfl (hG := hM.2.1) (hl := by exact Nat.le_of_ble_eq_true rfl) dX9_makesOneByOne_7 ?_
  refine gx_obM (z0, z1, nI tx.length, z3) hM rfl (fun hM => ?_)
  refine gx_iconst (v := nI 0) C dX9_makesOneByOne_10 (by decide) ?_
  refine gx_istore_n C dX9_makesOneByOne_11 (by decide) ?_
  exact hcp (tx.length + 1) 0 _ md (by omega) (by omega) ⟨hM, fun i hi => absurd hi (Nat.not_lt_zero _)⟩
set_option maxHeartbeats 600000 in
set_option maxRecDepth 100000 in
/-- X9_again -/
theorem k9_again (l : Launch) (D : gD) (A : Nat → Prop) (hs : Nat) {G : gH} {G0 : gH} {a : Nat} {t : TS} (h : gMw D G0 G a t) (z : Int32) : gM l yX9_again wsX9_again (gR 4) D A hs 0 0 [.ref a, .int z] G (gPi fun x G' => x = oChr (pTurn t.1.1 t.1.2.2.2.1.1 t.1.2.2.2.1.2.1) z ∧ gMw D G0 G' a t) := by
  refine gM_intro (by decide) rfl rfl (Nat.le_of_ble_eq_true rfl) ?_
  intro p e s m args below meth c C
  obtain ⟨st, pa, ty, md, rd, w, hM, hR, hH, hT⟩ := h
  have h4 := hH.1
  have ht := hT.1
  have l1 := hR.1.2.1
  have l2 := hR.2.2.1.2.1
  have hp4 : (pTurn t.1.1 t.1.2.2.2.1.1 t.1.2.2.2.1.2.1).length ≤ 100 := by
    rw [pTurn_e (sR_I hR) hR.1.2.1 hR.2.2.2.1.2.1, List.length_take]
    omega
  refine gx_iload_n C dX9_again_0 rfl ?_
  refine gx_if_ge (tgt := 6) C dX9_again_1 (by decide) (fun c_1 => ?_) (fun c_1 => ?_)
  · refine gx_aload_n C dX9_again_6 rfl ?_
    refine gx_callV (ci := 8) (T := TX9) (N := 11) C (k9_makesOneByOne l D A hs hM hR.1 hR.2.2.2.1 hR.2.2.2.2.2.1) cb_X9_again__X9_makesOneByOne gX9_again_X9_makesOneByOne rfl (hG := hM.2.1) rfl rfl (Nat.le_of_ble_eq_true rfl) ⟨Nat.le_refl _, Nat.le_refl _⟩ dX9_again_7 (gx_kv fun G_7 h_7 => ?_)
    obtain ⟨md2, hM, hX⟩ := h_7
    refine gx_aload_n C dX9_again_10 rfl ?_
    refine gx_iload_n C dX9_again_11 rfl ?_
    refine gx_callV (ci := 8) (T := TX9) (N := 11) C (k9_madeAt l D A hs hM.2.1 hM.2.2.2.2.2.1 rfl hp4 hX z (fun q => absurd q (Int32.not_lt.mpr c_1))) cb_X9_again__X9_madeAt gX9_again_X9_madeAt rfl (hG := hM.2.1) rfl rfl (Nat.le_of_ble_eq_true rfl) ⟨Nat.le_refl _, Nat.le_refl _⟩ dX9_again_12 (gx_ki fun r_12 G_12 h_12 => ?_)
    obtain ⟨rfl, rfl⟩ := h_12
    refine gx_zret (mc := 0) C rfl ?_ dX9_again_15
    exact ⟨_, rfl, rfl, gMw_mk hM hR hH hT⟩
  · refine gx_iconst (v := (-1)) C dX9_again_4 (by decide) ?_
    refine gx_zret (mc := 0) C rfl ?_ dX9_again_5
    exact ⟨_, rfl, (if_pos (Int32.not_le.mp c_1)).symm, gMw_mk hM hR hH hT⟩
