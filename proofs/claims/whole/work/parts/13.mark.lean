/-! MARKS AS NUMBERS -/
def pCode (k a b c : Int32) : Int32 := k <<< ((24 : Int32) &&& 31) ||| a <<< ((16 : Int32) &&& 31) ||| b <<< ((8 : Int32) &&& 31) ||| c
def pKind (c : Int32) : Int32 := c >>> ((24 : Int32) &&& 31)
def pFirst (c : Int32) : Int32 := c >>> ((16 : Int32) &&& 31) &&& 255
def pSecond (c : Int32) : Int32 := c >>> ((8 : Int32) &&& 31) &&& 255
def pSign (c : Int32) : Int32 := c &&& 255
def pTakes (k : Int32) : Int32 := if k = 1 ∨ k = 2 then 1 else 0
def pPart (c w : Int32) : Int32 := if w = 0 then pKind c else if w = 1 then pFirst c else if w = 2 then (if pKind c = 0 then pSecond c else -4) else if pTakes (pKind c) = 0 then -4 else pSign c
def pOk (k a b n : Int32) : Int32 := if k = 0 then (if a < b ∧ b ≤ n then 1 else 0) else if k = 1 then (if a ≤ n then 1 else 0) else if k = 3 then (if a + 1 < n then 1 else 0) else (if a < n then 1 else 0)
def pEnd (c : Int32) : Int32 := if pKind c = 0 then pSecond c else if pKind c = 1 then pFirst c else if pKind c = 3 then pFirst c + 2 else pFirst c + 1
def pOpp (a b : Int32) : Int32 := if a = b ∨ pKind a = 5 ∨ pKind b = 5 then 0 else if pKind a = 1 ∧ pKind b = 1 then (if pFirst a = pFirst b then 1 else 0) else if pFirst a < pEnd b ∧ pFirst b < pEnd a then 1 else 0
def pOut (v a b : Int32) : Int32 := if v < a ∨ b < v then 1 else 0
theorem gz_ltn {x y : Int32} : x < y ↔ ¬ y ≤ x := Int32.not_le.symm
theorem gz_ok0 {P : Prop} (h : P) : P := h
theorem gz_le {x y : Int32} : ¬ x ≤ y ↔ y < x := Int32.not_le
theorem gz_lt {x y : Int32} : ¬ x < y ↔ y ≤ x := Int32.not_lt
theorem cb_X1_partOf__X1_kindOf : gCb yX1_kindOf cX1_kindOf 1 (some .int) wsX1_kindOf (gR 0) (gR 1) 0 0 1 := ⟨rfl, rfl, rfl, by decide +kernel, by decide⟩
theorem cb_X1_partOf__X1_firstOf : gCb yX1_firstOf cX1_firstOf 1 (some .int) wsX1_firstOf (gR 0) (gR 1) 0 0 1 := ⟨rfl, rfl, rfl, by decide +kernel, by decide⟩
theorem cb_X1_partOf__X1_secondOf : gCb yX1_secondOf cX1_secondOf 1 (some .int) wsX1_secondOf (gR 0) (gR 1) 0 0 1 := ⟨rfl, rfl, rfl, by decide +kernel, by decide⟩
theorem cb_X1_partOf__X1_takesCharacter : gCb yX1_takesCharacter cX1_takesCharacter 1 (some .boolean) wsX1_takesCharacter (gR 0) (gR 1) 0 0 1 := ⟨rfl, rfl, rfl, by decide +kernel, by decide⟩
theorem cb_X1_partOf__X1_characterOf : gCb yX1_characterOf cX1_characterOf 1 (some .int) wsX1_characterOf (gR 0) (gR 1) 0 0 1 := ⟨rfl, rfl, rfl, by decide +kernel, by decide⟩
theorem cb_X1_endOf__X1_kindOf : gCb yX1_kindOf cX1_kindOf 1 (some .int) wsX1_kindOf (gR 0) (gR 1) 0 0 1 := ⟨rfl, rfl, rfl, by decide +kernel, by decide⟩
theorem cb_X1_endOf__X1_secondOf : gCb yX1_secondOf cX1_secondOf 1 (some .int) wsX1_secondOf (gR 0) (gR 1) 0 0 1 := ⟨rfl, rfl, rfl, by decide +kernel, by decide⟩
theorem cb_X1_endOf__X1_firstOf : gCb yX1_firstOf cX1_firstOf 1 (some .int) wsX1_firstOf (gR 0) (gR 1) 0 0 1 := ⟨rfl, rfl, rfl, by decide +kernel, by decide⟩
theorem cb_X1_areOpposed__X1_kindOf : gCb yX1_kindOf cX1_kindOf 1 (some .int) wsX1_kindOf (gR 0) (gR 2) 0 0 1 := ⟨rfl, rfl, rfl, by decide +kernel, by decide⟩
theorem cb_X1_areOpposed__X1_firstOf : gCb yX1_firstOf cX1_firstOf 1 (some .int) wsX1_firstOf (gR 0) (gR 2) 0 0 1 := ⟨rfl, rfl, rfl, by decide +kernel, by decide⟩
theorem cb_X1_areOpposed__X1_endOf : gCb yX1_endOf cX1_endOf 1 (some .int) wsX1_endOf (gR 1) (gR 2) 0 0 1 := ⟨rfl, rfl, rfl, by decide +kernel, by decide⟩
set_option maxHeartbeats 4000000 in
set_option maxRecDepth 100000 in
/-- X1_codeOf -/
theorem k1_codeOf (l : Launch) (D : gD) (A : Nat → Prop) (hs : Nat) {G : gH} (k a b z : Int32) : gM l yX1_codeOf wsX1_codeOf (gR 0) D A hs 0 0 [.int k, .int a, .int b, .int z] G (gPi fun x G' => x = pCode k a b z ∧ G' = G) := by
  refine gM_intro (by decide) rfl rfl (Nat.le_of_ble_eq_true rfl) ?_
  intro p e s m args below meth c C
  refine gx_iload_n C dX1_codeOf_0 rfl ?_
  refine gx_bipush (v := 24) C dX1_codeOf_1 (by decide) ?_
  refine gx_ishl C dX1_codeOf_3 ?_
  refine gx_iload_n C dX1_codeOf_4 rfl ?_
  refine gx_bipush (v := 16) C dX1_codeOf_5 (by decide) ?_
  refine gx_ishl C dX1_codeOf_7 ?_
  refine gx_ior C dX1_codeOf_8 ?_
  refine gx_iload_n C dX1_codeOf_9 rfl ?_
  refine gx_bipush (v := 8) C dX1_codeOf_10 (by decide) ?_
  refine gx_ishl C dX1_codeOf_12 ?_
  refine gx_ior C dX1_codeOf_13 ?_
  refine gx_iload_n C dX1_codeOf_14 rfl ?_
  refine gx_ior C dX1_codeOf_15 ?_
  refine gx_zret (mc := 0) C rfl ?_ dX1_codeOf_16
  exact ⟨_, rfl, rfl, rfl⟩
set_option maxHeartbeats 4000000 in
set_option maxRecDepth 100000 in
/-- X1_kindOf -/
theorem k1_kindOf (l : Launch) (D : gD) (A : Nat → Prop) (hs : Nat) {G : gH} (z : Int32) : gM l yX1_kindOf wsX1_kindOf (gR 0) D A hs 0 0 [.int z] G (gPi fun x G' => x = pKind z ∧ G' = G) := by
  refine gM_intro (by decide) rfl rfl (Nat.le_of_ble_eq_true rfl) ?_
  intro p e s m args below meth c C
  refine gx_iload_n C dX1_kindOf_0 rfl ?_
  refine gx_bipush (v := 24) C dX1_kindOf_1 (by decide) ?_
  refine gx_ishr C dX1_kindOf_3 ?_
  refine gx_zret (mc := 0) C rfl ?_ dX1_kindOf_4
  exact ⟨_, rfl, rfl, rfl⟩
set_option maxHeartbeats 4000000 in
set_option maxRecDepth 100000 in
/-- X1_firstOf -/
theorem k1_firstOf (l : Launch) (D : gD) (A : Nat → Prop) (hs : Nat) {G : gH} (z : Int32) : gM l yX1_firstOf wsX1_firstOf (gR 0) D A hs 0 0 [.int z] G (gPi fun x G' => x = pFirst z ∧ G' = G) := by
  refine gM_intro (by decide) rfl rfl (Nat.le_of_ble_eq_true rfl) ?_
  intro p e s m args below meth c C
  refine gx_iload_n C dX1_firstOf_0 rfl ?_
  refine gx_bipush (v := 16) C dX1_firstOf_1 (by decide) ?_
  refine gx_ishr C dX1_firstOf_3 ?_
  refine gx_sipush (v := 255) C dX1_firstOf_4 (by decide) ?_
  refine gx_iand C dX1_firstOf_7 ?_
  refine gx_zret (mc := 0) C rfl ?_ dX1_firstOf_8
  exact ⟨_, rfl, rfl, rfl⟩
set_option maxHeartbeats 4000000 in
set_option maxRecDepth 100000 in
/-- X1_secondOf -/
theorem k1_secondOf (l : Launch) (D : gD) (A : Nat → Prop) (hs : Nat) {G : gH} (z : Int32) : gM l yX1_secondOf wsX1_secondOf (gR 0) D A hs 0 0 [.int z] G (gPi fun x G' => x = pSecond z ∧ G' = G) := by
  refine gM_intro (by decide) rfl rfl (Nat.le_of_ble_eq_true rfl) ?_
  intro p e s m args below meth c C
  refine gx_iload_n C dX1_secondOf_0 rfl ?_
  refine gx_bipush (v := 8) C dX1_secondOf_1 (by decide) ?_
  refine gx_ishr C dX1_secondOf_3 ?_
  refine gx_sipush (v := 255) C dX1_secondOf_4 (by decide) ?_
  refine gx_iand C dX1_secondOf_7 ?_
  refine gx_zret (mc := 0) C rfl ?_ dX1_secondOf_8
  exact ⟨_, rfl, rfl, rfl⟩
set_option maxHeartbeats 4000000 in
set_option maxRecDepth 100000 in
/-- X1_characterOf -/
theorem k1_characterOf (l : Launch) (D : gD) (A : Nat → Prop) (hs : Nat) {G : gH} (z : Int32) : gM l yX1_characterOf wsX1_characterOf (gR 0) D A hs 0 0 [.int z] G (gPi fun x G' => x = pSign z ∧ G' = G) := by
  refine gM_intro (by decide) rfl rfl (Nat.le_of_ble_eq_true rfl) ?_
  intro p e s m args below meth c C
  refine gx_iload_n C dX1_characterOf_0 rfl ?_
  refine gx_sipush (v := 255) C dX1_characterOf_1 (by decide) ?_
  refine gx_iand C dX1_characterOf_4 ?_
  refine gx_zret (mc := 0) C rfl ?_ dX1_characterOf_5
  exact ⟨_, rfl, rfl, rfl⟩
set_option maxHeartbeats 4000000 in
set_option maxRecDepth 100000 in
/-- X1_takesCharacter -/
theorem k1_takesCharacter (l : Launch) (D : gD) (A : Nat → Prop) (hs : Nat) {G : gH} (k : Int32) : gM l yX1_takesCharacter wsX1_takesCharacter (gR 0) D A hs 0 0 [.int k] G (gPi fun x G' => x = pTakes k ∧ G' = G) := by
  refine gM_intro (by decide) rfl rfl (Nat.le_of_ble_eq_true rfl) ?_
  intro p e s m args below meth c C
  refine gx_iload_n C dX1_takesCharacter_0 rfl ?_
  refine gx_iconst (v := 1) C dX1_takesCharacter_1 (by decide) ?_
  refine gx_icmp_eq (tgt := 10) C dX1_takesCharacter_2 (by decide) (fun c_2 => ?_) (fun c_2 => ?_)
  · refine gx_iconst (v := 1) C dX1_takesCharacter_10 (by decide) ?_
    refine gx_goto (tgt := 15) C dX1_takesCharacter_11 (by decide) ?_
    refine gx_zret (mc := 0) C rfl ?_ dX1_takesCharacter_15
    exact ⟨_, rfl, by simp [pTakes, c_2], rfl⟩
  · refine gx_iload_n C dX1_takesCharacter_5 rfl ?_
    refine gx_iconst (v := 2) C dX1_takesCharacter_6 (by decide) ?_
    refine gx_icmp_ne (tgt := 14) C dX1_takesCharacter_7 (by decide) (fun c_7 => ?_) (fun c_7 => ?_)
    · refine gx_iconst (v := 0) C dX1_takesCharacter_14 (by decide) ?_
      refine gx_zret (mc := 0) C rfl ?_ dX1_takesCharacter_15
      exact ⟨_, rfl, by simp [pTakes, c_2, c_7], rfl⟩
    · refine gx_iconst (v := 1) C dX1_takesCharacter_10 (by decide) ?_
      refine gx_goto (tgt := 15) C dX1_takesCharacter_11 (by decide) ?_
      refine gx_zret (mc := 0) C rfl ?_ dX1_takesCharacter_15
      exact ⟨_, rfl, by simp [pTakes, c_2, c_7], rfl⟩
set_option maxHeartbeats 4000000 in
set_option maxRecDepth 100000 in
/-- X1_partOf -/
theorem k1_partOf (l : Launch) (D : gD) (A : Nat → Prop) (hs : Nat) {G : gH} (z w : Int32) : gM l yX1_partOf wsX1_partOf (gR 1) D A hs 0 0 [.int z, .int w] G (gPi fun x G' => x = pPart z w ∧ G' = G) := by
  refine gM_intro (by decide) rfl rfl (Nat.le_of_ble_eq_true rfl) ?_
  intro p e s m args below meth c C
  refine gx_iload_n C dX1_partOf_0 rfl ?_
  refine gx_split 0 (fun c_1_0 => ?_) (fun c_1_0 => ?_)
  · refine gx_tableIn (off := 27) (tgt := 28) C dX1_partOf_1 (by rw [c_1_0]; decide) (by rw [c_1_0]; decide) (by rw [c_1_0]; rfl) (by decide) ?_
    refine gx_iload_n C dX1_partOf_28 rfl ?_
    refine gx_callS C (k1_kindOf l D A hs z) cb_X1_partOf__X1_kindOf gX1_partOf_X1_kindOf rfl rfl (Nat.le_of_ble_eq_true rfl) ⟨Nat.le_refl _, Nat.le_refl _⟩ dX1_partOf_29 (gx_ki fun r_29 G_29 h_29 => ?_)
    obtain ⟨rfl, rfl⟩ := h_29
    refine gx_zret (mc := 0) C rfl ?_ dX1_partOf_32
    exact ⟨_, rfl, by simp [pPart, c_1_0], rfl⟩
  -- else
  refine gx_split 1 (fun c_1_1 => ?_) (fun c_1_1 => ?_)
  · refine gx_tableIn (off := 32) (tgt := 33) C dX1_partOf_1 (by rw [c_1_1]; decide) (by rw [c_1_1]; decide) (by rw [c_1_1]; rfl) (by decide) ?_
    refine gx_iload_n C dX1_partOf_33 rfl ?_
    refine gx_callS C (k1_firstOf l D A hs z) cb_X1_partOf__X1_firstOf gX1_partOf_X1_firstOf rfl rfl (Nat.le_of_ble_eq_true rfl) ⟨Nat.le_refl _, Nat.le_refl _⟩ dX1_partOf_34 (gx_ki fun r_34 G_34 h_34 => ?_)
    obtain ⟨rfl, rfl⟩ := h_34
    refine gx_zret (mc := 0) C rfl ?_ dX1_partOf_37
    exact ⟨_, rfl, by simp [pPart, c_1_0, c_1_1], rfl⟩
  -- else
  refine gx_split 2 (fun c_1_2 => ?_) (fun c_1_2 => ?_)
  · refine gx_tableIn (off := 37) (tgt := 38) C dX1_partOf_1 (by rw [c_1_2]; decide) (by rw [c_1_2]; decide) (by rw [c_1_2]; rfl) (by decide) ?_
    refine gx_iload_n C dX1_partOf_38 rfl ?_
    refine gx_callS C (k1_kindOf l D A hs z) cb_X1_partOf__X1_kindOf gX1_partOf_X1_kindOf rfl rfl (Nat.le_of_ble_eq_true rfl) ⟨Nat.le_refl _, Nat.le_refl _⟩ dX1_partOf_39 (gx_ki fun r_39 G_39 h_39 => ?_)
    obtain ⟨rfl, rfl⟩ := h_39
    refine gx_if_ne (tgt := 52) C dX1_partOf_42 (by decide) (fun c_42 => ?_) (fun c_42 => ?_)
    · refine gx_bipush (v := (-4)) C dX1_partOf_52 (by decide) ?_
      refine gx_zret (mc := 0) C rfl ?_ dX1_partOf_54
      exact ⟨_, rfl, by simp [pPart, c_1_0, c_1_1, c_1_2, c_42], rfl⟩
    · refine gx_iload_n C dX1_partOf_45 rfl ?_
      refine gx_callS C (k1_secondOf l D A hs z) cb_X1_partOf__X1_secondOf gX1_partOf_X1_secondOf rfl rfl (Nat.le_of_ble_eq_true rfl) ⟨Nat.le_refl _, Nat.le_refl _⟩ dX1_partOf_46 (gx_ki fun r_46 G_46 h_46 => ?_)
      obtain ⟨rfl, rfl⟩ := h_46
      refine gx_goto (tgt := 54) C dX1_partOf_49 (by decide) ?_
      refine gx_zret (mc := 0) C rfl ?_ dX1_partOf_54
      exact ⟨_, rfl, by simp [pPart, c_1_0, c_1_1, c_1_2, c_42], rfl⟩
  -- else
  refine gx_tableOut (tgt := 55) C dX1_partOf_1 (by have q_0 := gz_ne (n := 0) (by decide) c_1_0; have q_1 := gz_ne (n := 1) (by decide) c_1_1; have q_2 := gz_ne (n := 2) (by decide) c_1_2; omega) (by decide) ?_
  refine gx_iload_n C dX1_partOf_55 rfl ?_
  refine gx_callS C (k1_kindOf l D A hs z) cb_X1_partOf__X1_kindOf gX1_partOf_X1_kindOf rfl rfl (Nat.le_of_ble_eq_true rfl) ⟨Nat.le_refl _, Nat.le_refl _⟩ dX1_partOf_56 (gx_ki fun r_56 G_56 h_56 => ?_)
  obtain ⟨rfl, rfl⟩ := h_56
  refine gx_callS C (k1_takesCharacter l D A hs (pKind z)) cb_X1_partOf__X1_takesCharacter gX1_partOf_X1_takesCharacter rfl rfl (Nat.le_of_ble_eq_true rfl) ⟨Nat.le_refl _, Nat.le_refl _⟩ dX1_partOf_59 (gx_ki fun r_59 G_59 h_59 => ?_)
  obtain ⟨rfl, rfl⟩ := h_59
  refine gx_if_eq (tgt := 72) C dX1_partOf_62 (by decide) (fun c_62 => ?_) (fun c_62 => ?_)
  · refine gx_bipush (v := (-4)) C dX1_partOf_72 (by decide) ?_
    refine gx_zret (mc := 0) C rfl ?_ dX1_partOf_74
    exact ⟨_, rfl, by simp [pPart, c_1_0, c_1_1, c_1_2, c_62], rfl⟩
  · refine gx_iload_n C dX1_partOf_65 rfl ?_
    refine gx_callS C (k1_characterOf l D A hs z) cb_X1_partOf__X1_characterOf gX1_partOf_X1_characterOf rfl rfl (Nat.le_of_ble_eq_true rfl) ⟨Nat.le_refl _, Nat.le_refl _⟩ dX1_partOf_66 (gx_ki fun r_66 G_66 h_66 => ?_)
    obtain ⟨rfl, rfl⟩ := h_66
    refine gx_goto (tgt := 74) C dX1_partOf_69 (by decide) ?_
    refine gx_zret (mc := 0) C rfl ?_ dX1_partOf_74
    exact ⟨_, rfl, by simp [pPart, c_1_0, c_1_1, c_1_2, c_62], rfl⟩
set_option maxHeartbeats 4000000 in
set_option maxRecDepth 100000 in
/-- X1_isPossible -/
theorem k1_isPossible (l : Launch) (D : gD) (A : Nat → Prop) (hs : Nat) {G : gH} (k a b n : Int32) : gM l yX1_isPossible wsX1_isPossible (gR 0) D A hs 0 0 [.int k, .int a, .int b, .int n] G (gPi fun x G' => x = pOk k a b n ∧ G' = G) := by
  refine gM_intro (by decide) rfl rfl (Nat.le_of_ble_eq_true rfl) ?_
  intro p e s m args below meth c C
  refine gx_iload_n C dX1_isPossible_0 rfl ?_
  refine gx_split 0 (fun c_1_0 => ?_) (fun c_1_0 => ?_)
  · refine gx_tableIn (off := 31) (tgt := 32) C dX1_isPossible_1 (by rw [c_1_0]; decide) (by rw [c_1_0]; decide) (by rw [c_1_0]; rfl) (by decide) ?_
    refine gx_iload_n C dX1_isPossible_32 rfl ?_
    refine gx_iload_n C dX1_isPossible_33 rfl ?_
    refine gx_icmp_ge (tgt := 46) C dX1_isPossible_34 (by decide) (fun c_34 => ?_) (fun c_34 => ?_)
    · refine gx_iconst (v := 0) C dX1_isPossible_46 (by decide) ?_
      refine gx_zret (mc := 0) C rfl ?_ dX1_isPossible_47
      exact ⟨_, rfl, (by first | (simp [pOk, gz_le, gz_lt, c_1_0, c_34]; done) | (simp [pOk, gz_le, gz_lt, c_1_0, c_34]; exact fun h => (Int32.lt_irrefl (Int32.lt_of_lt_of_le h (by assumption))).elim)), rfl⟩
    · refine gx_iload_n C dX1_isPossible_37 rfl ?_
      refine gx_iload_n C dX1_isPossible_38 rfl ?_
      refine gx_icmp_gt (tgt := 46) C dX1_isPossible_39 (by decide) (fun c_39 => ?_) (fun c_39 => ?_)
      · refine gx_iconst (v := 0) C dX1_isPossible_46 (by decide) ?_
        refine gx_zret (mc := 0) C rfl ?_ dX1_isPossible_47
        exact ⟨_, rfl, (by first | (simp [pOk, gz_le, gz_lt, c_1_0, c_34, c_39]; done) | (simp [pOk, gz_le, gz_lt, c_1_0, c_34, c_39]; exact fun h => (Int32.lt_irrefl (Int32.lt_of_lt_of_le h (by assumption))).elim)), rfl⟩
      · refine gx_iconst (v := 1) C dX1_isPossible_42 (by decide) ?_
        refine gx_goto (tgt := 47) C dX1_isPossible_43 (by decide) ?_
        refine gx_zret (mc := 0) C rfl ?_ dX1_isPossible_47
        exact ⟨_, rfl, (by first | (simp [pOk, gz_le, gz_lt, c_1_0, c_34, c_39]; done) | (simp [pOk, gz_le, gz_lt, c_1_0, c_34, c_39]; exact fun h => (Int32.lt_irrefl (Int32.lt_of_lt_of_le h (by assumption))).elim)), rfl⟩
  -- else
  refine gx_split 1 (fun c_1_1 => ?_) (fun c_1_1 => ?_)
  · refine gx_tableIn (off := 47) (tgt := 48) C dX1_isPossible_1 (by rw [c_1_1]; decide) (by rw [c_1_1]; decide) (by rw [c_1_1]; rfl) (by decide) ?_
    refine gx_iload_n C dX1_isPossible_48 rfl ?_
    refine gx_iload_n C dX1_isPossible_49 rfl ?_
    refine gx_icmp_gt (tgt := 57) C dX1_isPossible_50 (by decide) (fun c_50 => ?_) (fun c_50 => ?_)
    · refine gx_iconst (v := 0) C dX1_isPossible_57 (by decide) ?_
      refine gx_zret (mc := 0) C rfl ?_ dX1_isPossible_58
      exact ⟨_, rfl, (by first | (simp [pOk, gz_le, gz_lt, c_1_0, c_1_1, c_50]; done) | (simp [pOk, gz_le, gz_lt, c_1_0, c_1_1, c_50]; exact fun h => (Int32.lt_irrefl (Int32.lt_of_lt_of_le h (by assumption))).elim)), rfl⟩
    · refine gx_iconst (v := 1) C dX1_isPossible_53 (by decide) ?_
      refine gx_goto (tgt := 58) C dX1_isPossible_54 (by decide) ?_
      refine gx_zret (mc := 0) C rfl ?_ dX1_isPossible_58
      exact ⟨_, rfl, (by first | (simp [pOk, gz_le, gz_lt, c_1_0, c_1_1, c_50]; done) | (simp [pOk, gz_le, gz_lt, c_1_0, c_1_1, c_50]; exact fun h => (Int32.lt_irrefl (Int32.lt_of_lt_of_le h (by assumption))).elim)), rfl⟩
  -- else
  refine gx_split 2 (fun c_1_2 => ?_) (fun c_1_2 => ?_)
  · refine gx_tableIn (off := 71) (tgt := 72) C dX1_isPossible_1 (by rw [c_1_2]; decide) (by rw [c_1_2]; decide) (by rw [c_1_2]; rfl) (by decide) ?_
    refine gx_iload_n C dX1_isPossible_72 rfl ?_
    refine gx_iload_n C dX1_isPossible_73 rfl ?_
    refine gx_icmp_ge (tgt := 81) C dX1_isPossible_74 (by decide) (fun c_74 => ?_) (fun c_74 => ?_)
    · refine gx_iconst (v := 0) C dX1_isPossible_81 (by decide) ?_
      refine gx_zret (mc := 0) C rfl ?_ dX1_isPossible_82
      exact ⟨_, rfl, (by first | (simp [pOk, gz_le, gz_lt, c_1_0, c_1_1, c_1_2, c_74]; done) | (simp [pOk, gz_le, gz_lt, c_1_0, c_1_1, c_1_2, c_74]; exact fun h => (Int32.lt_irrefl (Int32.lt_of_lt_of_le h (by assumption))).elim)), rfl⟩
    · refine gx_iconst (v := 1) C dX1_isPossible_77 (by decide) ?_
      refine gx_goto (tgt := 82) C dX1_isPossible_78 (by decide) ?_
      refine gx_zret (mc := 0) C rfl ?_ dX1_isPossible_82
      exact ⟨_, rfl, (by first | (simp [pOk, gz_le, gz_lt, c_1_0, c_1_1, c_1_2, c_74]; done) | (simp [pOk, gz_le, gz_lt, c_1_0, c_1_1, c_1_2, c_74]; exact fun h => (Int32.lt_irrefl (Int32.lt_of_lt_of_le h (by assumption))).elim)), rfl⟩
  -- else
  refine gx_split 3 (fun c_1_3 => ?_) (fun c_1_3 => ?_)
  · refine gx_tableIn (off := 58) (tgt := 59) C dX1_isPossible_1 (by rw [c_1_3]; decide) (by rw [c_1_3]; decide) (by rw [c_1_3]; rfl) (by decide) ?_
    refine gx_iload_n C dX1_isPossible_59 rfl ?_
    refine gx_iconst (v := 1) C dX1_isPossible_60 (by decide) ?_
    refine gx_iadd C dX1_isPossible_61 ?_
    refine gx_iload_n C dX1_isPossible_62 rfl ?_
    refine gx_icmp_ge (tgt := 70) C dX1_isPossible_63 (by decide) (fun c_63 => ?_) (fun c_63 => ?_)
    · refine gx_iconst (v := 0) C dX1_isPossible_70 (by decide) ?_
      refine gx_zret (mc := 0) C rfl ?_ dX1_isPossible_71
      exact ⟨_, rfl, (by first | (simp [pOk, gz_le, gz_lt, c_1_0, c_1_1, c_1_2, c_1_3, c_63]; done) | (simp [pOk, gz_le, gz_lt, c_1_0, c_1_1, c_1_2, c_1_3, c_63]; exact fun h => (Int32.lt_irrefl (Int32.lt_of_lt_of_le h (by assumption))).elim)), rfl⟩
    · refine gx_iconst (v := 1) C dX1_isPossible_66 (by decide) ?_
      refine gx_goto (tgt := 71) C dX1_isPossible_67 (by decide) ?_
      refine gx_zret (mc := 0) C rfl ?_ dX1_isPossible_71
      exact ⟨_, rfl, (by first | (simp [pOk, gz_le, gz_lt, c_1_0, c_1_1, c_1_2, c_1_3, c_63]; done) | (simp [pOk, gz_le, gz_lt, c_1_0, c_1_1, c_1_2, c_1_3, c_63]; exact fun h => (Int32.lt_irrefl (Int32.lt_of_lt_of_le h (by assumption))).elim)), rfl⟩
  -- else
  refine gx_tableOut (tgt := 72) C dX1_isPossible_1 (by have q_0 := gz_ne (n := 0) (by decide) c_1_0; have q_1 := gz_ne (n := 1) (by decide) c_1_1; have q_2 := gz_ne (n := 2) (by decide) c_1_2; have q_3 := gz_ne (n := 3) (by decide) c_1_3; omega) (by decide) ?_
  refine gx_iload_n C dX1_isPossible_72 rfl ?_
  refine gx_iload_n C dX1_isPossible_73 rfl ?_
  refine gx_icmp_ge (tgt := 81) C dX1_isPossible_74 (by decide) (fun c_74 => ?_) (fun c_74 => ?_)
  · refine gx_iconst (v := 0) C dX1_isPossible_81 (by decide) ?_
    refine gx_zret (mc := 0) C rfl ?_ dX1_isPossible_82
    exact ⟨_, rfl, (by first | (simp [pOk, gz_le, gz_lt, c_1_0, c_1_1, c_1_2, c_1_3, c_74]; done) | (simp [pOk, gz_le, gz_lt, c_1_0, c_1_1, c_1_2, c_1_3, c_74]; exact fun h => (Int32.lt_irrefl (Int32.lt_of_lt_of_le h (by assumption))).elim)), rfl⟩
  · refine gx_iconst (v := 1) C dX1_isPossible_77 (by decide) ?_
    refine gx_goto (tgt := 82) C dX1_isPossible_78 (by decide) ?_
    refine gx_zret (mc := 0) C rfl ?_ dX1_isPossible_82
    exact ⟨_, rfl, (by first | (simp [pOk, gz_le, gz_lt, c_1_0, c_1_1, c_1_2, c_1_3, c_74]; done) | (simp [pOk, gz_le, gz_lt, c_1_0, c_1_1, c_1_2, c_1_3, c_74]; exact fun h => (Int32.lt_irrefl (Int32.lt_of_lt_of_le h (by assumption))).elim)), rfl⟩
set_option maxHeartbeats 4000000 in
set_option maxRecDepth 100000 in
/-- X1_endOf -/
theorem k1_endOf (l : Launch) (D : gD) (A : Nat → Prop) (hs : Nat) {G : gH} (z : Int32) : gM l yX1_endOf wsX1_endOf (gR 1) D A hs 0 0 [.int z] G (gPi fun x G' => x = pEnd z ∧ G' = G) := by
  refine gM_intro (by decide) rfl rfl (Nat.le_of_ble_eq_true rfl) ?_
  intro p e s m args below meth c C
  refine gx_iload_n C dX1_endOf_0 rfl ?_
  refine gx_callS C (k1_kindOf l D A hs z) cb_X1_endOf__X1_kindOf gX1_endOf_X1_kindOf rfl rfl (Nat.le_of_ble_eq_true rfl) ⟨Nat.le_refl _, Nat.le_refl _⟩ dX1_endOf_1 (gx_ki fun r_1 G_1 h_1 => ?_)
  obtain ⟨rfl, rfl⟩ := h_1
  refine gx_split 0 (fun c_4_0 => ?_) (fun c_4_0 => ?_)
  · refine gx_tableIn (off := 32) (tgt := 36) C dX1_endOf_4 (by rw [c_4_0]; decide) (by rw [c_4_0]; decide) (by rw [c_4_0]; rfl) (by decide) ?_
    refine gx_iload_n C dX1_endOf_36 rfl ?_
    refine gx_callS C (k1_secondOf l D A hs z) cb_X1_endOf__X1_secondOf gX1_endOf_X1_secondOf rfl rfl (Nat.le_of_ble_eq_true rfl) ⟨Nat.le_refl _, Nat.le_refl _⟩ dX1_endOf_37 (gx_ki fun r_37 G_37 h_37 => ?_)
    obtain ⟨rfl, rfl⟩ := h_37
    refine gx_zret (mc := 0) C rfl ?_ dX1_endOf_40
    exact ⟨_, rfl, by simp [pEnd, c_4_0], rfl⟩
  -- else
  refine gx_split 1 (fun c_4_1 => ?_) (fun c_4_1 => ?_)
  · refine gx_tableIn (off := 37) (tgt := 41) C dX1_endOf_4 (by rw [c_4_1]; decide) (by rw [c_4_1]; decide) (by rw [c_4_1]; rfl) (by decide) ?_
    refine gx_iload_n C dX1_endOf_41 rfl ?_
    refine gx_callS C (k1_firstOf l D A hs z) cb_X1_endOf__X1_firstOf gX1_endOf_X1_firstOf rfl rfl (Nat.le_of_ble_eq_true rfl) ⟨Nat.le_refl _, Nat.le_refl _⟩ dX1_endOf_42 (gx_ki fun r_42 G_42 h_42 => ?_)
    obtain ⟨rfl, rfl⟩ := h_42
    refine gx_zret (mc := 0) C rfl ?_ dX1_endOf_45
    exact ⟨_, rfl, by simp [pEnd, c_4_0, c_4_1], rfl⟩
  -- else
  refine gx_split 2 (fun c_4_2 => ?_) (fun c_4_2 => ?_)
  · refine gx_tableIn (off := 49) (tgt := 53) C dX1_endOf_4 (by rw [c_4_2]; decide) (by rw [c_4_2]; decide) (by rw [c_4_2]; rfl) (by decide) ?_
    refine gx_iload_n C dX1_endOf_53 rfl ?_
    refine gx_callS C (k1_firstOf l D A hs z) cb_X1_endOf__X1_firstOf gX1_endOf_X1_firstOf rfl rfl (Nat.le_of_ble_eq_true rfl) ⟨Nat.le_refl _, Nat.le_refl _⟩ dX1_endOf_54 (gx_ki fun r_54 G_54 h_54 => ?_)
    obtain ⟨rfl, rfl⟩ := h_54
    refine gx_iconst (v := 1) C dX1_endOf_57 (by decide) ?_
    refine gx_iadd C dX1_endOf_58 ?_
    refine gx_zret (mc := 0) C rfl ?_ dX1_endOf_59
    exact ⟨_, rfl, by simp [pEnd, c_4_0, c_4_1, c_4_2], rfl⟩
  -- else
  refine gx_split 3 (fun c_4_3 => ?_) (fun c_4_3 => ?_)
  · refine gx_tableIn (off := 42) (tgt := 46) C dX1_endOf_4 (by rw [c_4_3]; decide) (by rw [c_4_3]; decide) (by rw [c_4_3]; rfl) (by decide) ?_
    refine gx_iload_n C dX1_endOf_46 rfl ?_
    refine gx_callS C (k1_firstOf l D A hs z) cb_X1_endOf__X1_firstOf gX1_endOf_X1_firstOf rfl rfl (Nat.le_of_ble_eq_true rfl) ⟨Nat.le_refl _, Nat.le_refl _⟩ dX1_endOf_47 (gx_ki fun r_47 G_47 h_47 => ?_)
    obtain ⟨rfl, rfl⟩ := h_47
    refine gx_iconst (v := 2) C dX1_endOf_50 (by decide) ?_
    refine gx_iadd C dX1_endOf_51 ?_
    refine gx_zret (mc := 0) C rfl ?_ dX1_endOf_52
    exact ⟨_, rfl, by simp [pEnd, c_4_0, c_4_1, c_4_2, c_4_3], rfl⟩
  -- else
  refine gx_tableOut (tgt := 53) C dX1_endOf_4 (by have q_0 := gz_ne (n := 0) (by decide) c_4_0; have q_1 := gz_ne (n := 1) (by decide) c_4_1; have q_2 := gz_ne (n := 2) (by decide) c_4_2; have q_3 := gz_ne (n := 3) (by decide) c_4_3; omega) (by decide) ?_
  refine gx_iload_n C dX1_endOf_53 rfl ?_
  refine gx_callS C (k1_firstOf l D A hs z) cb_X1_endOf__X1_firstOf gX1_endOf_X1_firstOf rfl rfl (Nat.le_of_ble_eq_true rfl) ⟨Nat.le_refl _, Nat.le_refl _⟩ dX1_endOf_54 (gx_ki fun r_54 G_54 h_54 => ?_)
  obtain ⟨rfl, rfl⟩ := h_54
  refine gx_iconst (v := 1) C dX1_endOf_57 (by decide) ?_
  refine gx_iadd C dX1_endOf_58 ?_
  refine gx_zret (mc := 0) C rfl ?_ dX1_endOf_59
  exact ⟨_, rfl, by simp [pEnd, c_4_0, c_4_1, c_4_2, c_4_3], rfl⟩
set_option maxHeartbeats 4000000 in
set_option maxRecDepth 100000 in
/-- X1_areOpposed -/
theorem k1_areOpposed (l : Launch) (D : gD) (A : Nat → Prop) (hs : Nat) {G : gH} (z w : Int32) : gM l yX1_areOpposed wsX1_areOpposed (gR 2) D A hs 0 0 [.int z, .int w] G (gPi fun x G' => x = pOpp z w ∧ G' = G) := by
  refine gM_intro (by decide) rfl rfl (Nat.le_of_ble_eq_true rfl) ?_
  intro p e s m args below meth c C
  refine gx_iload_n C dX1_areOpposed_0 rfl ?_
  refine gx_callS C (k1_kindOf l D A hs z) cb_X1_areOpposed__X1_kindOf gX1_areOpposed_X1_kindOf rfl rfl (Nat.le_of_ble_eq_true rfl) ⟨Nat.le_refl _, Nat.le_refl _⟩ dX1_areOpposed_1 (gx_ki fun r_1 G_1 h_1 => ?_)
  obtain ⟨rfl, rfl⟩ := h_1
  refine gx_istore_n C dX1_areOpposed_4 (by decide) ?_
  refine gx_iload_n C dX1_areOpposed_5 rfl ?_
  refine gx_callS C (k1_kindOf l D A hs w) cb_X1_areOpposed__X1_kindOf gX1_areOpposed_X1_kindOf rfl rfl (Nat.le_of_ble_eq_true rfl) ⟨Nat.le_refl _, Nat.le_refl _⟩ dX1_areOpposed_6 (gx_ki fun r_6 G_6 h_6 => ?_)
  obtain ⟨rfl, rfl⟩ := h_6
  refine gx_istore_n C dX1_areOpposed_9 (by decide) ?_
  refine gx_iload_n C dX1_areOpposed_10 rfl ?_
  refine gx_iload_n C dX1_areOpposed_11 rfl ?_
  refine gx_icmp_eq (tgt := 25) C dX1_areOpposed_12 (by decide) (fun c_12 => ?_) (fun c_12 => ?_)
  · refine gx_iconst (v := 0) C dX1_areOpposed_25 (by decide) ?_
    refine gx_zret (mc := 0) C rfl ?_ dX1_areOpposed_26
    exact ⟨_, rfl, by first | (simp [pOpp, gz_le, gz_lt, c_12]; done) | (simp [pOpp, gz_le, gz_lt, c_12]; exact fun h => (Int32.lt_irrefl (Int32.lt_of_lt_of_le h (by assumption))).elim), rfl⟩
  · refine gx_iload_n C dX1_areOpposed_15 rfl ?_
    refine gx_iconst (v := 5) C dX1_areOpposed_16 (by decide) ?_
    refine gx_icmp_eq (tgt := 25) C dX1_areOpposed_17 (by decide) (fun c_17 => ?_) (fun c_17 => ?_)
    · refine gx_iconst (v := 0) C dX1_areOpposed_25 (by decide) ?_
      refine gx_zret (mc := 0) C rfl ?_ dX1_areOpposed_26
      exact ⟨_, rfl, by first | (simp [pOpp, gz_le, gz_lt, c_12, c_17]; done) | (simp [pOpp, gz_le, gz_lt, c_12, c_17]; exact fun h => (Int32.lt_irrefl (Int32.lt_of_lt_of_le h (by assumption))).elim), rfl⟩
    · refine gx_iload_n C dX1_areOpposed_20 rfl ?_
      refine gx_iconst (v := 5) C dX1_areOpposed_21 (by decide) ?_
      refine gx_icmp_ne (tgt := 27) C dX1_areOpposed_22 (by decide) (fun c_22 => ?_) (fun c_22 => ?_)
      · refine gx_iload_n C dX1_areOpposed_27 rfl ?_
        refine gx_iconst (v := 1) C dX1_areOpposed_28 (by decide) ?_
        refine gx_icmp_ne (tgt := 54) C dX1_areOpposed_29 (by decide) (fun c_29 => ?_) (fun c_29 => ?_)
        · refine gx_iload_n C dX1_areOpposed_54 rfl ?_
          refine gx_callS C (k1_firstOf l D A hs z) cb_X1_areOpposed__X1_firstOf gX1_areOpposed_X1_firstOf rfl rfl (Nat.le_of_ble_eq_true rfl) ⟨Nat.le_refl _, Nat.le_refl _⟩ dX1_areOpposed_55 (gx_ki fun r_55 G_55 h_55 => ?_)
          obtain ⟨rfl, rfl⟩ := h_55
          refine gx_iload_n C dX1_areOpposed_58 rfl ?_
          refine gx_callS C (k1_endOf l D A hs w) cb_X1_areOpposed__X1_endOf gX1_areOpposed_X1_endOf rfl rfl (Nat.le_of_ble_eq_true rfl) ⟨Nat.le_refl _, Nat.le_refl _⟩ dX1_areOpposed_59 (gx_ki fun r_59 G_59 h_59 => ?_)
          obtain ⟨rfl, rfl⟩ := h_59
          refine gx_icmp_ge (tgt := 80) C dX1_areOpposed_62 (by decide) (fun c_62 => ?_) (fun c_62 => ?_)
          · refine gx_iconst (v := 0) C dX1_areOpposed_80 (by decide) ?_
            refine gx_zret (mc := 0) C rfl ?_ dX1_areOpposed_81
            exact ⟨_, rfl, by first | (simp [pOpp, gz_le, gz_lt, c_12, c_17, c_22, c_29, c_62]; done) | (simp [pOpp, gz_le, gz_lt, c_12, c_17, c_22, c_29, c_62]; exact fun h => (Int32.lt_irrefl (Int32.lt_of_lt_of_le h (by assumption))).elim), rfl⟩
          · refine gx_iload_n C dX1_areOpposed_65 rfl ?_
            refine gx_callS C (k1_firstOf l D A hs w) cb_X1_areOpposed__X1_firstOf gX1_areOpposed_X1_firstOf rfl rfl (Nat.le_of_ble_eq_true rfl) ⟨Nat.le_refl _, Nat.le_refl _⟩ dX1_areOpposed_66 (gx_ki fun r_66 G_66 h_66 => ?_)
            obtain ⟨rfl, rfl⟩ := h_66
            refine gx_iload_n C dX1_areOpposed_69 rfl ?_
            refine gx_callS C (k1_endOf l D A hs z) cb_X1_areOpposed__X1_endOf gX1_areOpposed_X1_endOf rfl rfl (Nat.le_of_ble_eq_true rfl) ⟨Nat.le_refl _, Nat.le_refl _⟩ dX1_areOpposed_70 (gx_ki fun r_70 G_70 h_70 => ?_)
            obtain ⟨rfl, rfl⟩ := h_70
            refine gx_icmp_ge (tgt := 80) C dX1_areOpposed_73 (by decide) (fun c_73 => ?_) (fun c_73 => ?_)
            · refine gx_iconst (v := 0) C dX1_areOpposed_80 (by decide) ?_
              refine gx_zret (mc := 0) C rfl ?_ dX1_areOpposed_81
              exact ⟨_, rfl, by first | (simp [pOpp, gz_le, gz_lt, c_12, c_17, c_22, c_29, c_62, c_73]; done) | (simp [pOpp, gz_le, gz_lt, c_12, c_17, c_22, c_29, c_62, c_73]; exact fun h => (Int32.lt_irrefl (Int32.lt_of_lt_of_le h (by assumption))).elim), rfl⟩
            · refine gx_iconst (v := 1) C dX1_areOpposed_76 (by decide) ?_
              refine gx_goto (tgt := 81) C dX1_areOpposed_77 (by decide) ?_
              refine gx_zret (mc := 0) C rfl ?_ dX1_areOpposed_81
              exact ⟨_, rfl, by first | (simp [pOpp, gz_le, gz_lt, c_12, c_17, c_22, c_29, c_62, c_73]; done) | (simp [pOpp, gz_le, gz_lt, c_12, c_17, c_22, c_29, c_62, c_73]; exact fun h => (Int32.lt_irrefl (Int32.lt_of_lt_of_le h (by assumption))).elim), rfl⟩
        · refine gx_iload_n C dX1_areOpposed_32 rfl ?_
          refine gx_iconst (v := 1) C dX1_areOpposed_33 (by decide) ?_
          refine gx_icmp_ne (tgt := 54) C dX1_areOpposed_34 (by decide) (fun c_34 => ?_) (fun c_34 => ?_)
          · refine gx_iload_n C dX1_areOpposed_54 rfl ?_
            refine gx_callS C (k1_firstOf l D A hs z) cb_X1_areOpposed__X1_firstOf gX1_areOpposed_X1_firstOf rfl rfl (Nat.le_of_ble_eq_true rfl) ⟨Nat.le_refl _, Nat.le_refl _⟩ dX1_areOpposed_55 (gx_ki fun r_55 G_55 h_55 => ?_)
            obtain ⟨rfl, rfl⟩ := h_55
            refine gx_iload_n C dX1_areOpposed_58 rfl ?_
            refine gx_callS C (k1_endOf l D A hs w) cb_X1_areOpposed__X1_endOf gX1_areOpposed_X1_endOf rfl rfl (Nat.le_of_ble_eq_true rfl) ⟨Nat.le_refl _, Nat.le_refl _⟩ dX1_areOpposed_59 (gx_ki fun r_59 G_59 h_59 => ?_)
            obtain ⟨rfl, rfl⟩ := h_59
            refine gx_icmp_ge (tgt := 80) C dX1_areOpposed_62 (by decide) (fun c_62 => ?_) (fun c_62 => ?_)
            · refine gx_iconst (v := 0) C dX1_areOpposed_80 (by decide) ?_
              refine gx_zret (mc := 0) C rfl ?_ dX1_areOpposed_81
              exact ⟨_, rfl, by first | (simp [pOpp, gz_le, gz_lt, c_12, c_17, c_22, c_29, c_34, c_62]; done) | (simp [pOpp, gz_le, gz_lt, c_12, c_17, c_22, c_29, c_34, c_62]; exact fun h => (Int32.lt_irrefl (Int32.lt_of_lt_of_le h (by assumption))).elim), rfl⟩
            · refine gx_iload_n C dX1_areOpposed_65 rfl ?_
              refine gx_callS C (k1_firstOf l D A hs w) cb_X1_areOpposed__X1_firstOf gX1_areOpposed_X1_firstOf rfl rfl (Nat.le_of_ble_eq_true rfl) ⟨Nat.le_refl _, Nat.le_refl _⟩ dX1_areOpposed_66 (gx_ki fun r_66 G_66 h_66 => ?_)
              obtain ⟨rfl, rfl⟩ := h_66
              refine gx_iload_n C dX1_areOpposed_69 rfl ?_
              refine gx_callS C (k1_endOf l D A hs z) cb_X1_areOpposed__X1_endOf gX1_areOpposed_X1_endOf rfl rfl (Nat.le_of_ble_eq_true rfl) ⟨Nat.le_refl _, Nat.le_refl _⟩ dX1_areOpposed_70 (gx_ki fun r_70 G_70 h_70 => ?_)
              obtain ⟨rfl, rfl⟩ := h_70
              refine gx_icmp_ge (tgt := 80) C dX1_areOpposed_73 (by decide) (fun c_73 => ?_) (fun c_73 => ?_)
              · refine gx_iconst (v := 0) C dX1_areOpposed_80 (by decide) ?_
                refine gx_zret (mc := 0) C rfl ?_ dX1_areOpposed_81
                exact ⟨_, rfl, by first | (simp [pOpp, gz_le, gz_lt, c_12, c_17, c_22, c_29, c_34, c_62, c_73]; done) | (simp [pOpp, gz_le, gz_lt, c_12, c_17, c_22, c_29, c_34, c_62, c_73]; exact fun h => (Int32.lt_irrefl (Int32.lt_of_lt_of_le h (by assumption))).elim), rfl⟩
              · refine gx_iconst (v := 1) C dX1_areOpposed_76 (by decide) ?_
                refine gx_goto (tgt := 81) C dX1_areOpposed_77 (by decide) ?_
                refine gx_zret (mc := 0) C rfl ?_ dX1_areOpposed_81
                exact ⟨_, rfl, by first | (simp [pOpp, gz_le, gz_lt, c_12, c_17, c_22, c_29, c_34, c_62, c_73]; done) | (simp [pOpp, gz_le, gz_lt, c_12, c_17, c_22, c_29, c_34, c_62, c_73]; exact fun h => (Int32.lt_irrefl (Int32.lt_of_lt_of_le h (by assumption))).elim), rfl⟩
          · refine gx_iload_n C dX1_areOpposed_37 rfl ?_
            refine gx_callS C (k1_firstOf l D A hs z) cb_X1_areOpposed__X1_firstOf gX1_areOpposed_X1_firstOf rfl rfl (Nat.le_of_ble_eq_true rfl) ⟨Nat.le_refl _, Nat.le_refl _⟩ dX1_areOpposed_38 (gx_ki fun r_38 G_38 h_38 => ?_)
            obtain ⟨rfl, rfl⟩ := h_38
            refine gx_iload_n C dX1_areOpposed_41 rfl ?_
            refine gx_callS C (k1_firstOf l D A hs w) cb_X1_areOpposed__X1_firstOf gX1_areOpposed_X1_firstOf rfl rfl (Nat.le_of_ble_eq_true rfl) ⟨Nat.le_refl _, Nat.le_refl _⟩ dX1_areOpposed_42 (gx_ki fun r_42 G_42 h_42 => ?_)
            obtain ⟨rfl, rfl⟩ := h_42
            refine gx_icmp_ne (tgt := 52) C dX1_areOpposed_45 (by decide) (fun c_45 => ?_) (fun c_45 => ?_)
            · refine gx_iconst (v := 0) C dX1_areOpposed_52 (by decide) ?_
              refine gx_zret (mc := 0) C rfl ?_ dX1_areOpposed_53
              exact ⟨_, rfl, by first | (simp [pOpp, gz_le, gz_lt, c_12, c_17, c_22, c_29, c_34, c_45]; done) | (simp [pOpp, gz_le, gz_lt, c_12, c_17, c_22, c_29, c_34, c_45]; exact fun h => (Int32.lt_irrefl (Int32.lt_of_lt_of_le h (by assumption))).elim), rfl⟩
            · refine gx_iconst (v := 1) C dX1_areOpposed_48 (by decide) ?_
              refine gx_goto (tgt := 53) C dX1_areOpposed_49 (by decide) ?_
              refine gx_zret (mc := 0) C rfl ?_ dX1_areOpposed_53
              exact ⟨_, rfl, by first | (simp [pOpp, gz_le, gz_lt, c_12, c_17, c_22, c_29, c_34, c_45]; done) | (simp [pOpp, gz_le, gz_lt, c_12, c_17, c_22, c_29, c_34, c_45]; exact fun h => (Int32.lt_irrefl (Int32.lt_of_lt_of_le h (by assumption))).elim), rfl⟩
      · refine gx_iconst (v := 0) C dX1_areOpposed_25 (by decide) ?_
        refine gx_zret (mc := 0) C rfl ?_ dX1_areOpposed_26
        exact ⟨_, rfl, by first | (simp [pOpp, gz_le, gz_lt, c_12, c_17, c_22]; done) | (simp [pOpp, gz_le, gz_lt, c_12, c_17, c_22]; exact fun h => (Int32.lt_irrefl (Int32.lt_of_lt_of_le h (by assumption))).elim), rfl⟩
set_option maxHeartbeats 4000000 in
set_option maxRecDepth 100000 in
/-- X8_isOutside -/
theorem k8_isOutside (l : Launch) (D : gD) (A : Nat → Prop) (hs : Nat) {G : gH} (z a b : Int32) : gM l yX8_isOutside wsX8_isOutside (gR 0) D A hs 0 0 [.int z, .int a, .int b] G (gPi fun x G' => x = pOut z a b ∧ G' = G) := by
  refine gM_intro (by decide) rfl rfl (Nat.le_of_ble_eq_true rfl) ?_
  intro p e s m args below meth c C
  refine gx_iload_n C dX8_isOutside_0 rfl ?_
  refine gx_iload_n C dX8_isOutside_1 rfl ?_
  refine gx_icmp_lt (tgt := 10) C dX8_isOutside_2 (by decide) (fun c_2 => ?_) (fun c_2 => ?_)
  · refine gx_iconst (v := 1) C dX8_isOutside_10 (by decide) ?_
    refine gx_goto (tgt := 15) C dX8_isOutside_11 (by decide) ?_
    refine gx_zret (mc := 0) C rfl ?_ dX8_isOutside_15
    exact ⟨_, rfl, by first | (simp [pOut, gz_le, gz_lt, c_2]; done) | (simp [pOut, gz_le, gz_lt, c_2]; exact fun h => (Int32.lt_irrefl (Int32.lt_of_lt_of_le h (by assumption))).elim), rfl⟩
  · refine gx_iload_n C dX8_isOutside_5 rfl ?_
    refine gx_iload_n C dX8_isOutside_6 rfl ?_
    refine gx_icmp_le (tgt := 14) C dX8_isOutside_7 (by decide) (fun c_7 => ?_) (fun c_7 => ?_)
    · refine gx_iconst (v := 0) C dX8_isOutside_14 (by decide) ?_
      refine gx_zret (mc := 0) C rfl ?_ dX8_isOutside_15
      exact ⟨_, rfl, by first | (simp [pOut, gz_le, gz_lt, c_2, c_7]; done) | (simp [pOut, gz_le, gz_lt, c_2, c_7]; exact fun h => (Int32.lt_irrefl (Int32.lt_of_lt_of_le h (by assumption))).elim), rfl⟩
    · refine gx_iconst (v := 1) C dX8_isOutside_10 (by decide) ?_
      refine gx_goto (tgt := 15) C dX8_isOutside_11 (by decide) ?_
      refine gx_zret (mc := 0) C rfl ?_ dX8_isOutside_15
      exact ⟨_, rfl, by first | (simp [pOut, gz_le, gz_lt, c_2, c_7]; done) | (simp [pOut, gz_le, gz_lt, c_2, c_7]; exact fun h => (Int32.lt_irrefl (Int32.lt_of_lt_of_le h (by assumption))).elim), rfl⟩
