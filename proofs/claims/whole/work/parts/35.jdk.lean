/-! STRING CONSTANTS: length and charAt, over the JDK's own code -/
section GJ
variable {p : Program} {l : Launch} {e : Env} {R : Room} {s : State} {m : MethodId} {args : Array Value} {below : List Frame} {meth : Method} {c : Code} {cc : ByteArray} {ret : Option FieldType} {Ts : List Cond} {own nm : String} {D : gD} {A : Nat → Prop} {nL hs0 hs cells slots mc ms : Nat} {Q : State → Prop} {G : gH} {V : List (Option Value)} {pc : Nat} {rest : List Value} {index n i : Nat} {post : Option Value → gH → Prop}
theorem gx_getsS (C : gC p s m args meth c cc ret Ts own nm D A nL hs0) (hl : Cond.fieldLink own index "java/lang/String" "COMPACT_STRINGS" "Z" ∈ Ts) (hdg : decode cc pc = .ok (.getstatic index, 3))
    (kk : gX p l e R s m args below meth c D A nL hs cells slots Q G V (pc + 3) (.int 1 :: rest)) : gX p l e R s m args below meth c D A nL hs cells slots Q G V pc rest :=
  fun H locs ls hP hS hz hL => va_gets C.1 C.2.1 C.2.2.2.2.2.2.2.1.2.2.2.2.1 hS C.2.2.2.2.1 (C.2.2.2.1 _ hl) (fun _ h => h) hdg (kk H locs ls hP hS hz hL)
theorem gx_getsF (C : gC p s m args meth c cc ret Ts own nm D A nL hs0) (hl : Cond.fieldLink own index "jdk/internal/util/Preconditions" "SIOOBE_FORMATTER" "Ljava/util/function/BiFunction;" ∈ Ts) (hdg : decode cc pc = .ok (.getstatic index, 3))
    (kk : ∀ w : Value, (w = .null ∨ ∃ a, w = .ref a) → gX p l e R s m args below meth c D A nL hs cells slots Q G V (pc + 3) (w :: rest)) : gX p l e R s m args below meth c D A nL hs cells slots Q G V pc rest := by
  intro H locs ls hP hS hz hL
  rcases C.2.2.2.2.2.2.2.1.2.2.2.2.2.1 with h | ⟨t, h⟩
  · exact va_gets C.1 C.2.1 h hS C.2.2.2.2.1 (C.2.2.2.1 _ hl) (fun _ h => h) hdg (kk .null (Or.inl rfl) H locs ls hP hS hz hL)
  · exact va_gets C.1 C.2.1 h hS C.2.2.2.2.1 (C.2.2.2.1 _ hl) (fun _ h => h) hdg (kk (.ref t) (Or.inr ⟨t, rfl⟩) H locs ls hP hS hz hL)
theorem gx_strC (C : gC p s m args meth c cc ret Ts own nm D A nL hs0) (hi : i < 6) (hl : Cond.fieldLink own index "java/lang/String" "coder" "B" ∈ Ts) (hdg : decode cc pc = .ok (.getfield index, 3))
    (kk : gX p l e R s m args below meth c D A nL hs cells slots Q G V (pc + 3) (.int 0 :: rest)) : gX p l e R s m args below meth c D A nL hs cells slots Q G V pc (.ref (D.2.1 i) :: rest) :=
  fun H locs ls hP hS hz hL => vk_getf C.1 C.2.1 (C.2.2.2.2.2.2.2.1.2.2.1.1 i hi).2.1 hS C.2.2.2.2.1 (C.2.2.2.1 _ hl) (fun _ h => h) hdg (kk H locs ls hP hS hz hL)
theorem gx_strV (C : gC p s m args meth c cc ret Ts own nm D A nL hs0) (hi : i < 6) (hl : Cond.fieldLink own index "java/lang/String" "value" "[B" ∈ Ts) (hdg : decode cc pc = .ok (.getfield index, 3))
    (kk : gX p l e R s m args below meth c D A nL hs cells slots Q G V (pc + 3) (.ref (D.2.2 i) :: rest)) : gX p l e R s m args below meth c D A nL hs cells slots Q G V pc (.ref (D.2.1 i) :: rest) :=
  fun H locs ls hP hS hz hL => vk_getf C.1 C.2.1 (C.2.2.2.2.2.2.2.1.2.2.1.1 i hi).2.2.1 hS C.2.2.2.2.1 (C.2.2.2.1 _ hl) (fun _ h => h) hdg (kk H locs ls hP hS hz hL)
theorem gx_strL (C : gC p s m args meth c cc ret Ts own nm D A nL hs0) (hi : i < 6) (hdg : decode cc pc = .ok (.arraylength, 1))
    (kk : gX p l e R s m args below meth c D A nL hs cells slots Q G V (pc + 1) (.int (nI (gSl.getD i 0)) :: rest)) : gX p l e R s m args below meth c D A nL hs cells slots Q G V pc (.ref (D.2.2 i) :: rest) :=
  fun H locs ls hP hS hz hL => va_tlen C.1 C.2.1 (C.2.2.2.2.2.2.2.1.2.2.1.1 i hi).2.2.2 hS rfl hdg (kk H locs ls hP hS hz hL)
theorem gx_strB (C : gC p s m args meth c cc ret Ts own nm D A nL hs0) (hi : i < 6) {k : Nat} (hk : k < gSl.getD i 0) (hb : gSl.getD i 0 < 1000) (hdg : decode cc pc = .ok (.baload, 1))
    (kk : gX p l e R s m args below meth c D A nL hs cells slots Q G V (pc + 1) (.int ((gSb.getD i []).getD k 0) :: rest)) : gX p l e R s m args below meth c D A nL hs cells slots Q G V pc (.int (nI k) :: .ref (D.2.2 i) :: rest) :=
  fun H locs ls hP hS hz hL => va_tb C.1 C.2.1 (C.2.2.2.2.2.2.2.1.2.2.1.1 i hi).2.2.2 hS (vp_in_nI hk (by omega)) (by rw [nI_clamp (by omega)]) hdg (kk H locs ls hP hS hz hL)
theorem gx_pop (C : gC p s m args meth c cc ret Ts own nm D A nL hs0) {va : Value} (hdg : decode cc pc = .ok (.pop, 1)) (hva : va.category = 1)
    (kk : gX p l e R s m args below meth c D A nL hs cells slots Q G V (pc + 1) rest) : gX p l e R s m args below meth c D A nL hs cells slots Q G V pc (va :: rest) :=
  fun H locs ls hP hS hz hL => lv_pop C.1 C.2.1 hdg hva (kk H locs ls hP hS hz hL)
theorem gx_i2c (C : gC p s m args meth c cc ret Ts own nm D A nL hs0) {x v : Int32} (hdg : decode cc pc = .ok (.i2c, 1)) (hv : (x.toUInt32 % 65536).toInt32 = v)
    (kk : gX p l e R s m args below meth c D A nL hs cells slots Q G V (pc + 1) (.int v :: rest)) : gX p l e R s m args below meth c D A nL hs cells slots Q G V pc (.int x :: rest) :=
  fun H locs ls hP hS hz hL => lv_i2c C.1 C.2.1 hdg hv (kk H locs ls hP hS hz hL)
theorem gx_ldcS (C : gC p s m args meth c cc ret Ts own nm D A nL hs0) (hi : i < 6) (ho : own = RX3) (hx : index = gSi.getD i 0) (hdg : decode cc pc = .ok (.ldc index, 2))
    (kk : gX p l e R s m args below meth c D A nL hs cells slots Q G V (pc + 2) (.ref (D.2.1 i) :: rest)) : gX p l e R s m args below meth c D A nL hs cells slots Q G V pc rest := by
  subst ho
  subst hx
  exact fun H locs ls hP hS hz hL => va_ldcS C.1 C.2.1 C.2.2.2.2.1 (C.2.2.2.2.2.2.2.1.2.2.2.1 i hi) hdg (kk H locs ls hP hS hz hL)
variable {y : MethodName} {bytes : ByteArray} {maxL : Nat} {ret2 : Option FieldType} {ws : List Cond} {rm : Room} {As : List Value} {st0 : List Value}
theorem gx_callVS (C : gC p s m args meth c cc ret Ts own nm D A nL hs0) (hM : gM l y ws rm D A hs mc ms (.ref (D.2.1 i) :: As) G post) (F : gCb y bytes maxL ret2 ws rm R mc ms n) (hT : GoodIn Ts (wsV own index y.cls y ws)) (hi : i < 6) (hy : y.cls = "java/lang/String") (hn : As.length = n) (hst : st0 = As.reverse ++ .ref (D.2.1 i) :: rest) (hroom : (rest.map fun v => v.category).sum ≤ 8) (hf : cells + mc ≤ R.cells ∧ slots + ms ≤ R.slots) (hdg : decode cc pc = .ok (.invokevirtual index, 3))
    (kk : ∀ (v : Option Value) (G' : gH), post v G' → gX p l e R s m args below meth c D A nL (hs + mc) (cells + mc) (slots + ms) Q G' V (pc + 3) (v.toList ++ rest)) : gX p l e R s m args below meth c D A nL hs cells slots Q G V pc st0 := by
  obtain ⟨f1, f2, f3, f4, f5⟩ := F
  refine gx_ofRun C (a0 := (.ref (D.2.1 i) :: As).toArray) (fun H locs ls hP hS hz hL => ?_) kk
  exact va_runV (As := As) (rest := rest) ⟨C.1, C.2.1, C.2.2.2.2.2.2.1, C.2.2.2.2.1, C.2.2.2.1⟩ hM (cwV n C.2.2.2.1 hT f1 f2 f3 ⟨rfl, f4⟩ f5) ⟨gPc_blind, by rw [hy]; exact vk_recv C.2.2.2.2.2.2.2.1.2.2.1 hi hS, gPc_of C.2.2.2.2.2.2.2.1 hP hS hz⟩ rfl hn hL.1 hst (lv_room hroom) hdg hf
end GJ
def gCh (i k : Nat) : Int32 := (gSb.getD i []).getD k 0
theorem gCh_ok : ∀ i, i < 6 → ∀ k, k < gSl.getD i 0 → ((gCh i k &&& 255).toUInt32 % 65536).toInt32 = gCh i k ∧ vp_nar .char (gCh i k) = gCh i k := by decide +kernel
theorem gSl_lt : ∀ i, i < 6 → gSl.getD i 0 < 10 := by decide +kernel
theorem gz_char {x : Int32} (h : vp_nar .char x = x) : narrow .char (.int x) = .int x := by
  unfold vp_nar at h
  simp only [narrow] at h ⊢
  exact congrArg Value.int h
set_option maxRecDepth 20000 in
theorem mm_J0_coder_7d493_fl38 : Cond.fieldLink RJ0 38 "java/lang/String" "COMPACT_STRINGS" "Z" ∈ wsJ0_coder_7d493 := by decide +kernel
set_option maxRecDepth 20000 in
theorem mm_J0_coder_7d493_fl15 : Cond.fieldLink RJ0 15 "java/lang/String" "coder" "B" ∈ wsJ0_coder_7d493 := by decide +kernel
set_option maxRecDepth 20000 in
theorem mm_J0_length_8abf5_fl9 : Cond.fieldLink RJ0 9 "java/lang/String" "value" "[B" ∈ wsJ0_length_8abf5 := by decide +kernel
theorem cb_J0_length_8abf5__J0_coder_7d493 : gCb yJ0_coder_7d493 cJ0_coder_7d493 1 (some .byte) wsJ0_coder_7d493 (gR 0) (gR 1) 0 0 0 := ⟨rfl, rfl, rfl, by decide +kernel, by decide⟩
set_option maxRecDepth 20000 in
theorem mm_J0_isLatin1_aae02_fl38 : Cond.fieldLink RJ0 38 "java/lang/String" "COMPACT_STRINGS" "Z" ∈ wsJ0_isLatin1_aae02 := by decide +kernel
set_option maxRecDepth 20000 in
theorem mm_J0_isLatin1_aae02_fl15 : Cond.fieldLink RJ0 15 "java/lang/String" "coder" "B" ∈ wsJ0_isLatin1_aae02 := by decide +kernel
set_option maxRecDepth 20000 in
theorem mm_J0_checkIndex_df160_fl1053 : Cond.fieldLink RJ0 1053 "jdk/internal/util/Preconditions" "SIOOBE_FORMATTER" "Ljava/util/function/BiFunction;" ∈ wsJ0_checkIndex_df160 := by decide +kernel
theorem cb_J0_checkIndex_df160__J3_checkIndex_8e157 : gCb yJ3_checkIndex_8e157 cJ3_checkIndex_8e157 3 (some .int) wsJ3_checkIndex_8e157 (gR 0) (gR 1) 0 0 3 := ⟨rfl, rfl, rfl, by decide +kernel, by decide⟩
theorem cb_J1_charAt_3b067__J0_checkIndex_df160 : gCb yJ0_checkIndex_df160 cJ0_checkIndex_df160 2 none wsJ0_checkIndex_df160 (gR 1) (gR 2) 0 0 2 := ⟨rfl, rfl, rfl, by decide +kernel, by decide⟩
theorem cb_J0_charAt_5068e__J0_isLatin1_aae02 : gCb yJ0_isLatin1_aae02 cJ0_isLatin1_aae02 1 (some .boolean) wsJ0_isLatin1_aae02 (gR 0) (gR 3) 0 0 0 := ⟨rfl, rfl, rfl, by decide +kernel, by decide⟩
set_option maxRecDepth 20000 in
theorem mm_J0_charAt_5068e_fl9 : Cond.fieldLink RJ0 9 "java/lang/String" "value" "[B" ∈ wsJ0_charAt_5068e := by decide +kernel
theorem cb_J0_charAt_5068e__J1_charAt_3b067 : gCb yJ1_charAt_3b067 cJ1_charAt_3b067 2 (some .char) wsJ1_charAt_3b067 (gR 2) (gR 3) 0 0 2 := ⟨rfl, rfl, rfl, by decide +kernel, by decide⟩
set_option maxHeartbeats 4000000 in
set_option maxRecDepth 100000 in
/-- J0_coder_7d493 -/
theorem kj_coder (l : Launch) (D : gD) (A : Nat → Prop) (hs : Nat) {G : gH} {i : Nat} (hi : i < 6) : gM l yJ0_coder_7d493 wsJ0_coder_7d493 (gR 0) D A hs 0 0 [.ref (D.2.1 i)] G (gPi fun x G' => x = 0 ∧ G' = G) := by
  refine gM_intro (by decide) rfl rfl (Nat.le_of_ble_eq_true rfl) ?_
  intro p e s m args below meth c C
  refine gx_getsS C mm_J0_coder_7d493_fl38 dJ0_coder_7d493_0 ?_
  refine gx_if_eq (tgt := 13) C dJ0_coder_7d493_3 (by decide) (fun c_3 => ?_) (fun c_3 => ?_)
  · exact absurd c_3 (by decide)
  · refine gx_aload_n C dJ0_coder_7d493_6 rfl ?_
    refine gx_strC C hi mm_J0_coder_7d493_fl15 dJ0_coder_7d493_7 ?_
    refine gx_goto (tgt := 14) C dJ0_coder_7d493_10 (by decide) ?_
    refine gx_zret (mc := 0) C rfl ?_ dJ0_coder_7d493_14
    exact ⟨_, rfl, rfl, rfl⟩
set_option maxHeartbeats 4000000 in
set_option maxRecDepth 100000 in
/-- J0_length_8abf5 -/
theorem kj_length (l : Launch) (D : gD) (A : Nat → Prop) (hs : Nat) {G : gH} {i : Nat} (hi : i < 6) : gM l yJ0_length_8abf5 wsJ0_length_8abf5 (gR 1) D A hs 0 0 [.ref (D.2.1 i)] G (gPi fun x G' => x = nI (gSl.getD i 0) ∧ G' = G) := by
  refine gM_intro (by decide) rfl rfl (Nat.le_of_ble_eq_true rfl) ?_
  intro p e s m args below meth c C
  have hb := gSl_lt i hi
  refine gx_aload_n C dJ0_length_8abf5_0 rfl ?_
  refine gx_strV C hi mm_J0_length_8abf5_fl9 dJ0_length_8abf5_1 ?_
  refine gx_strL C hi dJ0_length_8abf5_4 ?_
  refine gx_aload_n C dJ0_length_8abf5_5 rfl ?_
  refine gx_callVS C (kj_coder l D A hs hi) cb_J0_length_8abf5__J0_coder_7d493 gJ0_length_8abf5_J0_coder_7d493 hi rfl rfl rfl (Nat.le_of_ble_eq_true rfl) ⟨Nat.le_refl _, Nat.le_refl _⟩ dJ0_length_8abf5_6 (gx_ki fun r_6 G_6 h_6 => ?_)
  obtain ⟨rfl, rfl⟩ := h_6
  refine gx_ishr C dJ0_length_8abf5_9 ?_
  refine gx_zret (mc := 0) C rfl ?_ dJ0_length_8abf5_10
  exact ⟨_, rfl, (pk_shrN (n := gSl.getD i 0) (by omega) ((0 : Int32) &&& 31) 0 (by decide)).trans (by rw [Nat.pow_zero, Nat.div_one]), rfl⟩
set_option maxHeartbeats 4000000 in
set_option maxRecDepth 100000 in
/-- J0_isLatin1_aae02 -/
theorem kj_isLatin1 (l : Launch) (D : gD) (A : Nat → Prop) (hs : Nat) {G : gH} {i : Nat} (hi : i < 6) : gM l yJ0_isLatin1_aae02 wsJ0_isLatin1_aae02 (gR 0) D A hs 0 0 [.ref (D.2.1 i)] G (gPi fun x G' => x = 1 ∧ G' = G) := by
  refine gM_intro (by decide) rfl rfl (Nat.le_of_ble_eq_true rfl) ?_
  intro p e s m args below meth c C
  refine gx_getsS C mm_J0_isLatin1_aae02_fl38 dJ0_isLatin1_aae02_0 ?_
  refine gx_if_eq (tgt := 17) C dJ0_isLatin1_aae02_3 (by decide) (fun c_3 => ?_) (fun c_3 => ?_)
  · exact absurd c_3 (by decide)
  · refine gx_aload_n C dJ0_isLatin1_aae02_6 rfl ?_
    refine gx_strC C hi mm_J0_isLatin1_aae02_fl15 dJ0_isLatin1_aae02_7 ?_
    refine gx_if_ne (tgt := 17) C dJ0_isLatin1_aae02_10 (by decide) (fun c_10 => ?_) (fun c_10 => ?_)
    · exact absurd rfl c_10
    · refine gx_iconst (v := 1) C dJ0_isLatin1_aae02_13 (by decide) ?_
      refine gx_goto (tgt := 18) C dJ0_isLatin1_aae02_14 (by decide) ?_
      refine gx_zret (mc := 0) C rfl ?_ dJ0_isLatin1_aae02_18
      exact ⟨_, rfl, rfl, rfl⟩
set_option maxHeartbeats 4000000 in
set_option maxRecDepth 100000 in
/-- J3_checkIndex_8e157 -/
theorem kj_ckxN (l : Launch) (D : gD) (A : Nat → Prop) (hs : Nat) {G : gH} (k n : Nat) (hk : k < n) (hn : n < 1000) : gM l yJ3_checkIndex_8e157 wsJ3_checkIndex_8e157 (gR 0) D A hs 0 0 [.int (nI k), .int (nI n), .null] G (gPi fun x G' => x = nI k ∧ G' = G) := by
  refine gM_intro (by decide) rfl rfl (Nat.le_of_ble_eq_true rfl) ?_
  intro p e s m args below meth c C
  refine gx_iload_n C dJ3_checkIndex_8e157_0 rfl ?_
  refine gx_if_lt (tgt := 9) C dJ3_checkIndex_8e157_1 (by decide) (fun c_1 => ?_) (fun c_1 => ?_)
  · exact absurd c_1 (nI_pos (by omega))
  · refine gx_iload_n C dJ3_checkIndex_8e157_4 rfl ?_
    refine gx_iload_n C dJ3_checkIndex_8e157_5 rfl ?_
    refine gx_icmp_lt (tgt := 16) C dJ3_checkIndex_8e157_6 (by decide) (fun c_6 => ?_) (fun c_6 => ?_)
    · refine gx_iload_n C dJ3_checkIndex_8e157_16 rfl ?_
      refine gx_zret (mc := 0) C rfl ?_ dJ3_checkIndex_8e157_17
      exact ⟨_, rfl, rfl, rfl⟩
    · exact absurd (nI_lt hk (by omega)) c_6
set_option maxHeartbeats 4000000 in
set_option maxRecDepth 100000 in
/-- J3_checkIndex_8e157 -/
theorem kj_ckxR (l : Launch) (D : gD) (A : Nat → Prop) (hs : Nat) {G : gH} (k n : Nat) (hk : k < n) (hn : n < 1000) (w : Nat) : gM l yJ3_checkIndex_8e157 wsJ3_checkIndex_8e157 (gR 0) D A hs 0 0 [.int (nI k), .int (nI n), .ref w] G (gPi fun x G' => x = nI k ∧ G' = G) := by
  refine gM_intro (by decide) rfl rfl (Nat.le_of_ble_eq_true rfl) ?_
  intro p e s m args below meth c C
  refine gx_iload_n C dJ3_checkIndex_8e157_0 rfl ?_
  refine gx_if_lt (tgt := 9) C dJ3_checkIndex_8e157_1 (by decide) (fun c_1 => ?_) (fun c_1 => ?_)
  · exact absurd c_1 (nI_pos (by omega))
  · refine gx_iload_n C dJ3_checkIndex_8e157_4 rfl ?_
    refine gx_iload_n C dJ3_checkIndex_8e157_5 rfl ?_
    refine gx_icmp_lt (tgt := 16) C dJ3_checkIndex_8e157_6 (by decide) (fun c_6 => ?_) (fun c_6 => ?_)
    · refine gx_iload_n C dJ3_checkIndex_8e157_16 rfl ?_
      refine gx_zret (mc := 0) C rfl ?_ dJ3_checkIndex_8e157_17
      exact ⟨_, rfl, rfl, rfl⟩
    · exact absurd (nI_lt hk (by omega)) c_6
set_option maxHeartbeats 4000000 in
set_option maxRecDepth 100000 in
/-- J0_checkIndex_df160 -/
theorem kj_ckI (l : Launch) (D : gD) (A : Nat → Prop) (hs : Nat) {G : gH} (k n : Nat) (hk : k < n) (hn : n < 1000) : gM l yJ0_checkIndex_df160 wsJ0_checkIndex_df160 (gR 1) D A hs 0 0 [.int (nI k), .int (nI n)] G (gPv fun G' => G' = G) := by
  refine gM_intro (by decide) rfl rfl (Nat.le_of_ble_eq_true rfl) ?_
  intro p e s m args below meth c C
  refine gx_iload_n C dJ0_checkIndex_df160_0 rfl ?_
  refine gx_iload_n C dJ0_checkIndex_df160_1 rfl ?_
  refine gx_getsF C mm_J0_checkIndex_df160_fl1053 dJ0_checkIndex_df160_2 (fun w hw => ?_)
  have hM : gM l yJ3_checkIndex_8e157 wsJ3_checkIndex_8e157 (gR 0) D A hs 0 0 [.int (nI k), .int (nI n), w] G (gPi fun x G' => x = nI k ∧ G' = G) := by
    rcases hw with rfl | ⟨w, rfl⟩
    · exact kj_ckxN l D A hs k n hk hn
    · exact kj_ckxR l D A hs k n hk hn w
  refine gx_callS C hM cb_J0_checkIndex_df160__J3_checkIndex_8e157 gJ0_checkIndex_df160_J3_checkIndex_8e157 rfl rfl (Nat.le_of_ble_eq_true rfl) ⟨Nat.le_refl _, Nat.le_refl _⟩ dJ0_checkIndex_df160_5 (gx_ki fun r_5 G_5 h_5 => ?_)
  obtain ⟨rfl, rfl⟩ := h_5
  refine gx_pop C dJ0_checkIndex_df160_8 rfl ?_
  refine gx_vret (mc := 0) C ?_ dJ0_checkIndex_df160_9
  exact ⟨rfl, rfl⟩
set_option maxHeartbeats 4000000 in
set_option maxRecDepth 100000 in
/-- J1_charAt_3b067 -/
theorem kj_lat (l : Launch) (D : gD) (A : Nat → Prop) (hs : Nat) {G : gH} {i : Nat} (hi : i < 6) (k : Nat) (hk : k < gSl.getD i 0) : gM l yJ1_charAt_3b067 wsJ1_charAt_3b067 (gR 2) D A hs 0 0 [.ref (D.2.2 i), .int (nI k)] G (gPi fun x G' => x = gCh i k ∧ G' = G) := by
  refine gM_intro (by decide) rfl rfl (Nat.le_of_ble_eq_true rfl) ?_
  intro p e s m args below meth c C
  have hb := gSl_lt i hi
  have hc := gCh_ok i hi k hk
  refine gx_iload_n C dJ1_charAt_3b067_0 rfl ?_
  refine gx_aload_n C dJ1_charAt_3b067_1 rfl ?_
  refine gx_strL C hi dJ1_charAt_3b067_2 ?_
  refine gx_callS C (kj_ckI l D A hs k (gSl.getD i 0) hk (by omega)) cb_J1_charAt_3b067__J0_checkIndex_df160 gJ1_charAt_3b067_J0_checkIndex_df160 rfl rfl (Nat.le_of_ble_eq_true rfl) ⟨Nat.le_refl _, Nat.le_refl _⟩ dJ1_charAt_3b067_3 (gx_kv fun G_3 h_3 => ?_)
  subst h_3
  refine gx_aload_n C dJ1_charAt_3b067_6 rfl ?_
  refine gx_iload_n C dJ1_charAt_3b067_7 rfl ?_
  refine gx_strB C hi hk (by omega) dJ1_charAt_3b067_8 ?_
  refine gx_sipush (v := 255) C dJ1_charAt_3b067_9 (by decide) ?_
  refine gx_iand C dJ1_charAt_3b067_12 ?_
  refine gx_i2c C dJ1_charAt_3b067_13 hc.1 ?_
  refine gx_zret (mc := 0) C (gz_char hc.2) ?_ dJ1_charAt_3b067_14
  exact ⟨_, rfl, rfl, rfl⟩
set_option maxHeartbeats 4000000 in
set_option maxRecDepth 100000 in
/-- J0_charAt_5068e -/
theorem kj_charAt (l : Launch) (D : gD) (A : Nat → Prop) (hs : Nat) {G : gH} {i : Nat} (hi : i < 6) (k : Nat) (hk : k < gSl.getD i 0) : gM l yJ0_charAt_5068e wsJ0_charAt_5068e (gR 3) D A hs 0 0 [.ref (D.2.1 i), .int (nI k)] G (gPi fun x G' => x = gCh i k ∧ G' = G) := by
  refine gM_intro (by decide) rfl rfl (Nat.le_of_ble_eq_true rfl) ?_
  intro p e s m args below meth c C
  have hc := gCh_ok i hi k hk
  refine gx_aload_n C dJ0_charAt_5068e_0 rfl ?_
  refine gx_callVS C (kj_isLatin1 l D A hs hi) cb_J0_charAt_5068e__J0_isLatin1_aae02 gJ0_charAt_5068e_J0_isLatin1_aae02 hi rfl rfl rfl (Nat.le_of_ble_eq_true rfl) ⟨Nat.le_refl _, Nat.le_refl _⟩ dJ0_charAt_5068e_1 (gx_ki fun r_1 G_1 h_1 => ?_)
  obtain ⟨rfl, rfl⟩ := h_1
  refine gx_if_eq (tgt := 16) C dJ0_charAt_5068e_4 (by decide) (fun c_4 => ?_) (fun c_4 => ?_)
  · exact absurd c_4 (by decide)
  · refine gx_aload_n C dJ0_charAt_5068e_7 rfl ?_
    refine gx_strV C hi mm_J0_charAt_5068e_fl9 dJ0_charAt_5068e_8 ?_
    refine gx_iload_n C dJ0_charAt_5068e_11 rfl ?_
    refine gx_callS C (kj_lat l D A hs hi k hk) cb_J0_charAt_5068e__J1_charAt_3b067 gJ0_charAt_5068e_J1_charAt_3b067 rfl rfl (Nat.le_of_ble_eq_true rfl) ⟨Nat.le_refl _, Nat.le_refl _⟩ dJ0_charAt_5068e_12 (gx_ki fun r_12 G_12 h_12 => ?_)
    obtain ⟨rfl, rfl⟩ := h_12
    refine gx_zret (mc := 0) C (gz_char hc.2) ?_ dJ0_charAt_5068e_15
    exact ⟨_, rfl, rfl, rfl⟩
