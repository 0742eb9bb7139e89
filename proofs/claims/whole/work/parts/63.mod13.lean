/-! THE MODEL: the text of the next round at once -/
def mHb (li : ML) (pos k : Nat) : Bool := decide (li.2.1.getD k 0 = 1) && (decide (pF (li.1.getD k 0) ≤ pos) && (decide (pos < pE (li.1.getD k 0)) && !decide (pKind (li.1.getD k 0) = 5)))
theorem mHb_i {li : ML} {pos k : Nat} : mHb li pos k = true ↔ mHit li pos k := by
  unfold mHb mHit
  rw [Bool.and_eq_true, Bool.and_eq_true, Bool.and_eq_true, decide_eq_true_eq, decide_eq_true_eq, decide_eq_true_eq, Bool.not_eq_true', decide_eq_false_iff_not]
def mTv (tx : List Int32) (li : ML) (pos : Nat) : Int32 := match (List.range li.1.length).find? (mHb li pos) with
  | some k => mVal tx (li.1.getD k 0) pos
  | none => tx.getD pos 0
theorem mTv_e {tx : List Int32} {li : ML} {pos : Nat} {x : Int32} (h : mTu tx li pos x) : x = mTv tx li pos := by
  unfold mTv
  rcases h with ⟨k, hk, h1, h2, h3⟩ | ⟨h1, h2⟩
  · have e : (List.range li.1.length).find? (mHb li pos) = some k := by
      rw [List.find?_range_eq_some]
      exact ⟨mHb_i.mpr h1, List.mem_range.mpr hk, fun j hj => by rw [Bool.not_eq_true']; exact Bool.eq_false_iff.mpr (fun y => h2 j hj (mHb_i.mp y))⟩
    rw [e]
    exact h3
  · have e : (List.range li.1.length).find? (mHb li pos) = none := by
      rw [List.find?_range_eq_none]
      exact fun j hj => by rw [Bool.not_eq_true']; exact Bool.eq_false_iff.mpr (fun y => h1 j hj (mHb_i.mp y))
    rw [e]
    exact h2
def mMk (tx : List Int32) (li : ML) : Nat → List Int32
  | 0 => []
  | n + 1 => (mMk tx li n ++ mBr li n li.1.length) ++ (if mTv tx li n < 0 then [] else [mTv tx li n])
theorem mMk_le {tx : List Int32} {li : ML} {k : Nat} : ∀ n : Nat, k ≤ n → (mMk tx li k).length ≤ (mMk tx li n).length := by
  intro n
  induction n with
  | zero => intro h; rw [show k = 0 by omega]; exact Nat.le_refl _
  | succ n ih =>
    intro h
    by_cases q : k = n + 1
    · rw [q]; exact Nat.le_refl _
    · have := ih (by omega)
      rw [mMk, List.length_append, List.length_append]
      omega
def mAll (tx : List Int32) (li : ML) : List Int32 := mMk tx li tx.length ++ mBr li tx.length li.1.length
theorem mdR_t {md : Nat → Int32} {xs : List Int32} {n : Nat} (h : mdR md xs) : mdR md (xs.take n) := by
  intro i hi
  rw [List.length_take] at hi
  rw [List.getD_eq_getElem?_getD, List.getElem?_take_of_lt (by omega), ← List.getD_eq_getElem?_getD]
  exact h i (by omega)
section GOM
variable {p : Program} {l : Launch} {e : Env} {R : Room} {s : State} {m : MethodId} {args : Array Value} {below : List Frame} {meth : Method} {D : gD} {A : Nat → Prop} {nL hs cells slots : Nat} {Q : State → Prop} {G0 G : gH} {V : List (Option Value)} {pc : Nat} {rest : List Value} {c : Code} {a : Nat} {z : MI} {st pa ty md rd : Nat → Int32} {ee : va_E}
theorem gx_obM (z' : MI) (hM : gMa D G0 G a z st pa ty md rd) (he : ee = .inr (8, [.ref (a + 1), .ref (a + 2), .int z'.1, .ref (a + 3), .int z'.2.1, .ref (a + 4), .int z'.2.2.1, .int z'.2.2.2.1, .int z'.2.2.2.2.1, .ref (a + 5), .int z'.2.2.2.2.2])) (kk : gMa D G0 (gU G a ee) a z' st pa ty md rd → gX p l e R s m args below meth c D A nL hs cells slots Q (gU G a ee) V pc rest) : gX p l e R s m args below meth c D A nL hs cells slots Q (gU G a ee) V pc rest := kk (gMa_ob hM he)
end GOM
set_option maxRecDepth 20000 in
theorem in_X9_makes_X9 : ∀ w ∈ wsX90, w ∈ wsX9_makes := by decide +kernel
set_option maxRecDepth 20000 in
theorem fd_X9_makes_7 : gFd wsX9_makes RX9 7 8 RX9 TX9 11 0 := ⟨in_X9_makes_X9, rfl, by decide, by decide +kernel⟩
theorem cb_X9_makes__X9_brings : gCb yX9_brings cX9_brings 4 none wsX9_brings (gR 2) (gR 3) 0 0 1 := ⟨rfl, rfl, rfl, by decide +kernel, by decide⟩
set_option maxRecDepth 20000 in
theorem fd_X9_makes_122 : gFd wsX9_makes RX9 122 8 RX9 TX9 11 6 := ⟨in_X9_makes_X9, rfl, by decide, by decide +kernel⟩
theorem cb_X9_makes__X9_turned : gCb yX9_turned cX9_turned 6 (some .int) wsX9_turned (gR 2) (gR 3) 0 0 1 := ⟨rfl, rfl, rfl, by decide +kernel, by decide⟩
set_option maxRecDepth 20000 in
theorem fd_X9_makes_19 : gFd wsX9_makes RX9 19 8 RX9 TX9 11 5 := ⟨in_X9_makes_X9, rfl, by decide, by decide +kernel⟩
set_option maxHeartbeats 600000 in
set_option maxRecDepth 100000 in
/-- X9_makes -/
theorem k9_makes (l : Launch) (D : gD) (A : Nat → Prop) (hs : Nat) {G : gH} {G0 : gH} {a : Nat} {z0 z1 z2 : Int32} {z3 : Int32 × Int32 × Int32} {st pa ty md rd : Nat → Int32} {tx : List Int32} {li : ML} (hM : gMa D G0 G a (z0, z1, z2, z3) st pa ty md rd) (hT : sTx st tx) (hL : sLi st li tx.length) (hroom : (mMk tx li tx.length ++ mBr li tx.length li.1.length).length ≤ 170) : gM l yX9_makes wsX9_makes (gR 3) D A hs 0 0 [.ref a] G (gPv fun G' => ∃ md' : Nat → Int32, gMa D G0 G' a (z0, z1, nI ((mAll tx li).take 100).length, z3) st pa ty md' rd ∧ mdR md' ((mAll tx li).take 100)) := by
  refine gM_intro (by decide) rfl rfl (Nat.le_of_ble_eq_true rfl) ?_
  intro p e s m args below meth c C
  have l3 := hL.2.1
  have t2 := hT.2.1
  have hr9 : (mMk tx li tx.length ++ mBr li tx.length li.1.length).length = (mMk tx li tx.length).length + (mBr li tx.length li.1.length).length := List.length_append
  have hloop : ∀ (n j : Nat) (G1 : gH) (o : Option Value) (md1 : Nat → Int32), tx.length < j + n → j ≤ tx.length → gMa D G0 G1 a (z0, z1, nI (mMk tx li j).length, z3) st pa ty md1 rd ∧ mdR md1 (mMk tx li j) → gX p l e (gR 3) s m args below meth c D A 3 hs 0 0 (MQ below (gQ D A hs 0 (gPv fun G' => ∃ md' : Nat → Int32, gMa D G0 G' a (z0, z1, nI ((mAll tx li).take 100).length, z3) st pa ty md' rd ∧ mdR md' ((mAll tx li).take 100))) args s 0 0 A) G1 [some (.ref a), some (.int (nI j)), o] 7 [] := by
    intro n
    induction n with
    | zero => intro j G1 o md1 hm hj0 hI; exact absurd hm (by omega)
    | succ n ih =>
      intro j G1 o md1 hm hj0 hI
      have hM := hI.1
      have hX := hI.2
      refine gx_iload_n C dX9_makes_7 rfl ?_
      refine gx_aload_n C dX9_makes_8 rfl ?_
      refine gx_get C fd_X9_makes_7 (hG := hM.2.1) (hv := by rfl) dX9_makes_9 ?_
      refine gx_iconst (v := nI 0) C dX9_makes_12 (by decide) ?_
      refine gx_ialdN C (hG := (by first | exact hM.2.2.1 | exact hM.2.2.2.1 | exact hM.2.2.2.2.1 | exact hM.2.2.2.2.2.1 | exact hM.2.2.2.2.2.2)) (hk := by omega) (hn := by omega) dX9_makes_13 ?_
      rw [hT.1]
      refine gx_icmp_ge (tgt := 58) C dX9_makes_14 (by decide) (fun c_14 => ?_) (fun c_14 => ?_)
      · have hj : ¬ j < tx.length := fun q => nI_ge q (by omega) c_14
        obtain rfl : j = tx.length := by omega
        refine gx_aload_n C dX9_makes_58 rfl ?_
        refine gx_aload_n C dX9_makes_59 rfl ?_
        refine gx_get C fd_X9_makes_7 (hG := hM.2.1) (hv := by rfl) dX9_makes_60 ?_
        refine gx_iconst (v := nI 0) C dX9_makes_63 (by decide) ?_
        refine gx_ialdN C (hG := (by first | exact hM.2.2.1 | exact hM.2.2.2.1 | exact hM.2.2.2.2.1 | exact hM.2.2.2.2.2.1 | exact hM.2.2.2.2.2.2)) (hk := by omega) (hn := by omega) dX9_makes_64 ?_
        rw [hT.1]
        refine gx_callV (ci := 8) (T := TX9) (N := 11) C (k9_brings l D A hs hM hL hX tx.length (by omega) (by rw [← List.length_append]; exact hroom)) cb_X9_makes__X9_brings gX9_makes_X9_brings rfl (hG := hM.2.1) rfl rfl (Nat.le_of_ble_eq_true rfl) ⟨Nat.le_refl _, Nat.le_refl _⟩ dX9_makes_65 (gx_kv fun G_65 h_65 => ?_)
        obtain ⟨md2, hM, hX⟩ := h_65
        refine gx_aload_n C dX9_makes_68 rfl ?_
        refine gx_aload_n C dX9_makes_69 rfl ?_
        refine gx_get C fd_X9_makes_122 (hG := hM.2.1) (hv := by rfl) dX9_makes_70 ?_
        refine gx_bipush (v := nI 100) C dX9_makes_73 (by decide) ?_
        refine gx_icmp_le (tgt := 83) C dX9_makes_75 (by decide) (fun c_75 => ?_) (fun c_75 => ?_)
        · have hc : (mMk tx li tx.length ++ mBr li tx.length li.1.length).length ≤ 100 := (nI_leI (by omega) (by omega)).mp c_75
          have ht : (mAll tx li).take 100 = (mMk tx li tx.length ++ mBr li tx.length li.1.length) := List.take_of_length_le hc
          refine gx_aload_n C dX9_makes_83 rfl ?_
          refine gx_get C fd_X9_makes_122 (hG := hM.2.1) (hv := by rfl) dX9_makes_84 ?_
          refine gx_put C fd_X9_makes_122 tyX9_ok nmX9 rfl rfl rfl (hG := hM.2.1) (hl := by exact Nat.le_of_ble_eq_true rfl) dX9_makes_87 ?_
          first
          | refine gx_obM (z0, z1, nI 100, z3) hM rfl (fun hM => ?_)
          | refine gx_obM (z0, z1, nI (mMk tx li tx.length ++ mBr li tx.length li.1.length).length, z3) hM rfl (fun hM => ?_)
          refine gx_vret (mc := 0) C ?_ dX9_makes_90
          first
          | exact ⟨rfl, _, by rw [ht]; exact hM, by rw [ht]; exact hX⟩
          | exact ⟨rfl, _, by rw [ht]; exact hM, mdR_t hX⟩
        · have hc : ¬ (mMk tx li tx.length ++ mBr li tx.length li.1.length).length ≤ 100 := fun q => c_75 (nI_le q (by omega))
          have ht : ((mAll tx li).take 100).length = 100 := by
            have : (mAll tx li).length = (mMk tx li tx.length ++ mBr li tx.length li.1.length).length := rfl
            rw [List.length_take]
            omega
          refine gx_bipush (v := nI 100) C dX9_makes_78 (by decide) ?_
          refine gx_goto (tgt := 87) C dX9_makes_80 (by decide) ?_
          refine gx_put C fd_X9_makes_122 tyX9_ok nmX9 rfl rfl rfl (hG := hM.2.1) (hl := by exact Nat.le_of_ble_eq_true rfl) dX9_makes_87 ?_
          first
          | refine gx_obM (z0, z1, nI 100, z3) hM rfl (fun hM => ?_)
          | refine gx_obM (z0, z1, nI (mMk tx li tx.length ++ mBr li tx.length li.1.length).length, z3) hM rfl (fun hM => ?_)
          refine gx_vret (mc := 0) C ?_ dX9_makes_90
          first
          | exact ⟨rfl, _, by rw [ht]; exact hM, by rw [ht]; exact hX⟩
          | exact ⟨rfl, _, by rw [ht]; exact hM, mdR_t hX⟩
      · have hj : j < tx.length := by
          rcases Nat.lt_or_ge (j) (tx.length) with q | q
          · exact q
          · exact absurd (nI_le q (by omega)) c_14
        have hl9 := mMk_le (tx := tx) (li := li) (k := j + 1) tx.length (by omega)
        rw [mMk, List.length_append, List.length_append] at hl9
        have hl8 : (mMk tx li j ++ mBr li j li.1.length).length = (mMk tx li j).length + (mBr li j li.1.length).length := List.length_append
        refine gx_aload_n C dX9_makes_17 rfl ?_
        refine gx_iload_n C dX9_makes_18 rfl ?_
        refine gx_callV (ci := 8) (T := TX9) (N := 11) C (k9_brings l D A hs hM hL hX j (by omega) (by omega)) cb_X9_makes__X9_brings gX9_makes_X9_brings rfl (hG := hM.2.1) rfl rfl (Nat.le_of_ble_eq_true rfl) ⟨Nat.le_refl _, Nat.le_refl _⟩ dX9_makes_19 (gx_kv fun G_19 h_19 => ?_)
        obtain ⟨md2, hM, hX⟩ := h_19
        refine gx_aload_n C dX9_makes_22 rfl ?_
        refine gx_iload_n C dX9_makes_23 rfl ?_
        refine gx_callV (ci := 8) (T := TX9) (N := 11) C (k9_turned l D A hs hM.2.1 hM.2.2.1 hT hL hj) cb_X9_makes__X9_turned gX9_makes_X9_turned rfl (hG := hM.2.1) rfl rfl (Nat.le_of_ble_eq_true rfl) ⟨Nat.le_refl _, Nat.le_refl _⟩ dX9_makes_24 (gx_ki fun r_24 G_24 h_24 => ?_)
        obtain ⟨e24, rfl⟩ := h_24
        obtain rfl := mTv_e e24
        refine gx_istore_n C dX9_makes_27 (by decide) ?_
        refine gx_iload_n C dX9_makes_28 rfl ?_
        refine gx_if_lt (tgt := 52) C dX9_makes_29 (by decide) (fun c_29 => ?_) (fun c_29 => ?_)
        · have hx : (mMk tx li (j + 1)) = (mMk tx li j ++ mBr li j li.1.length) := by rw [mMk, if_pos c_29, List.append_nil]
          first | refine gx_iincN C dX9_makes_52 rfl (by decide) ?_ | refine gx_iinc1 C dX9_makes_52 rfl (by decide) ?_
          refine gx_goto (tgt := 7) C dX9_makes_55 (by decide) ?_
          first
          | exact ih (j + 1) _ _ _ (by omega) (by omega) ⟨by rw [hx, len_1]; exact hM, by rw [hx]; exact mdR_1 hX⟩
          | exact ih (j + 1) _ _ _ (by omega) (by omega) ⟨by rw [hx]; exact hM, by rw [hx]; exact hX⟩
        · have hx : (mMk tx li (j + 1)) = (mMk tx li j ++ mBr li j li.1.length) ++ [mTv tx li j] := by rw [mMk, if_neg c_29]
          rw [if_neg c_29] at hl9
          have hl9 : (mMk tx li j).length + (mBr li j li.1.length).length + 1 ≤ _ := hl9
          refine gx_aload_n C dX9_makes_32 rfl ?_
          refine gx_get C fd_X9_makes_19 (hG := hM.2.1) (hv := by rfl) dX9_makes_33 ?_
          refine gx_aload_n C dX9_makes_36 rfl ?_
          refine gx_get C fd_X9_makes_122 (hG := hM.2.1) (hv := by rfl) dX9_makes_37 ?_
          refine gx_iload_n C dX9_makes_40 rfl ?_
          refine gx_iastN C (hG := (by first | exact hM.2.2.1 | exact hM.2.2.2.1 | exact hM.2.2.2.2.1 | exact hM.2.2.2.2.2.1 | exact hM.2.2.2.2.2.2)) (hk := by omega) (hn := by omega) dX9_makes_41 ?_
          refine gx_mdM hM (fun hM => ?_)
          refine gx_aload_n C dX9_makes_42 rfl ?_
          refine gx_dup C dX9_makes_43 rfl ?_
          refine gx_get C fd_X9_makes_122 (hG := hM.2.1) (hv := by rfl) dX9_makes_44 ?_
          refine gx_iconst (v := nI 1) C dX9_makes_47 (by decide) ?_
          refine gx_iadd C dX9_makes_48 ?_
          first | refine gx_top (nI_add _ _) ?_ | skip
          refine gx_put C fd_X9_makes_122 tyX9_ok nmX9 rfl rfl rfl (hG := hM.2.1) (hl := by exact Nat.le_of_ble_eq_true rfl) dX9_makes_49 ?_
          refine gx_obM (z0, z1, nI ((mMk tx li j ++ mBr li j li.1.length).length + 1), z3) hM rfl (fun hM => ?_)
          first | refine gx_iincN C dX9_makes_52 rfl (by decide) ?_ | refine gx_iinc1 C dX9_makes_52 rfl (by decide) ?_
          refine gx_goto (tgt := 7) C dX9_makes_55 (by decide) ?_
          first
          | exact ih (j + 1) _ _ _ (by omega) (by omega) ⟨by rw [hx, len_1]; exact hM, by rw [hx]; exact mdR_1 hX⟩
          | exact ih (j + 1) _ _ _ (by omega) (by omega) ⟨by rw [hx]; exact hM, by rw [hx]; exact hX⟩
  refine gx_aload_n C dX9_makes_0 rfl ?_
  refine gx_iconst (v := nI 0) C dX9_makes_1 (by decide) ?_
  refine gx_put C fd_X9_makes_122 tyX9_ok nmX9 rfl rfl rfl (hG := hM.2.1) (hl := by exact Nat.le_of_ble_eq_true rfl) dX9_makes_2 ?_
  refine gx_obM (z0, z1, nI 0, z3) hM rfl (fun hM => ?_)
  refine gx_iconst (v := nI 0) C dX9_makes_5 (by decide) ?_
  refine gx_istore_n C dX9_makes_6 (by decide) ?_
  exact hloop (tx.length + 1) 0 _ none md (by omega) (by omega) ⟨hM, fun i hi => absurd hi (Nat.not_lt_zero _)⟩
