/-! THE MODEL: what becomes of a character -/
def mHit (li : ML) (pos k : Nat) : Prop := li.2.1.getD k 0 = 1 ∧ pF (li.1.getD k 0) ≤ pos ∧ pos < pE (li.1.getD k 0) ∧ ¬ pKind (li.1.getD k 0) = 5
def mVal (tx : List Int32) (c : Int32) (pos : Nat) : Int32 := if pKind c = 0 then -1 else if pKind c = 2 then pSign c else if pKind c = 3 then tx.getD (2 * pF c + 1 - pos) 0 else pOther (tx.getD pos 0)
def mTu (tx : List Int32) (li : ML) (pos : Nat) (x : Int32) : Prop := (∃ k : Nat, k < li.1.length ∧ mHit li pos k ∧ (∀ i : Nat, i < k → ¬ mHit li pos i) ∧ x = mVal tx (li.1.getD k 0) pos) ∨ ((∀ k : Nat, k < li.1.length → ¬ mHit li pos k) ∧ x = tx.getD pos 0)
theorem out_ie {pos f e : Nat} (hp : pos < 1000) (hf : f < 1000) (he : e < 1000) : pOut (nI pos) (nI f) (nI e - nI 1) = 0 ↔ f ≤ pos ∧ pos < e := by
  have h1 : (nI pos).toInt = pos := nI_toInt (by omega)
  have h2 : (nI f).toInt = f := nI_toInt (by omega)
  have h3 : (nI e - nI 1).toInt = (e : Int) - (1 : Nat) := pk_sub_toInt (by omega) (by omega)
  unfold pOut
  by_cases q : nI pos < nI f ∨ nI e - nI 1 < nI pos
  · rw [if_pos q]
    rw [Int32.lt_iff_toInt_lt, Int32.lt_iff_toInt_lt, h1, h2, h3] at q
    constructor
    · intro y
      exact absurd y (by decide)
    · intro y
      omega
  · rw [if_neg q]
    rw [Int32.lt_iff_toInt_lt, Int32.lt_iff_toInt_lt, h1, h2, h3] at q
    constructor
    · intro _
      omega
    · intro _
      rfl
theorem pE_3 {z : Int32} (h : pKind z = 3) : pE z = pF z + 2 := by
  rw [pE, if_neg (by rw [h]; decide), if_neg (by rw [h]; decide), if_pos h]
theorem iOk_3 {z : Int32} {n : Nat} (h : iOk0 z n) (k : pKind z = 3) : pF z + 1 < n := by
  rcases h with h | h | h | h | h | h
  · rw [k] at h; exact absurd h.1 (by decide)
  · rw [k] at h; exact absurd h.1 (by decide)
  · rw [k] at h; exact absurd h.1 (by decide)
  · exact h.2
  · rw [k] at h; exact absurd h.1 (by decide)
  · rw [k] at h; exact absurd h.1 (by decide)
theorem iOk_5 {z : Int32} {n : Nat} (h : iOk0 z n) (k0 : ¬ pKind z = 0) (k1 : ¬ pKind z = 1) (k2 : ¬ pKind z = 2) (k3 : ¬ pKind z = 3) (k4 : ¬ pKind z = 4) : pKind z = 5 := by
  rcases h with h | h | h | h | h | h
  · exact absurd h.1 k0
  · exact absurd h.1 k1
  · exact absurd h.1 k2
  · exact absurd h.1 k3
  · exact absurd h.1 k4
  · exact h.1
set_option maxRecDepth 20000 in
theorem in_X9_turned_X9 : ∀ w ∈ wsX90, w ∈ wsX9_turned := by decide +kernel
set_option maxRecDepth 20000 in
theorem fd_X9_turned_7 : gFd wsX9_turned RX9 7 8 RX9 TX9 11 0 := ⟨in_X9_turned_X9, rfl, by decide, by decide +kernel⟩
theorem cb_X9_turned__X9_listed : gCb yX9_listed cX9_listed 1 (some .int) wsX9_listed (gR 0) (gR 2) 0 0 1 := ⟨rfl, rfl, rfl, by decide +kernel, by decide⟩
theorem cb_X9_turned__X9_isAccepted : gCb yX9_isAccepted cX9_isAccepted 2 (some .boolean) wsX9_isAccepted (gR 1) (gR 2) 0 0 1 := ⟨rfl, rfl, rfl, by decide +kernel, by decide⟩
theorem cb_X9_turned__X9_behind : gCb yX9_behind cX9_behind 3 (some .int) wsX9_behind (gR 0) (gR 2) 0 0 1 := ⟨rfl, rfl, rfl, by decide +kernel, by decide⟩
theorem cb_X9_turned__X9_in : gCb yX9_in cX9_in 3 (some .boolean) wsX9_in (gR 0) (gR 2) 0 0 3 := ⟨rfl, rfl, rfl, by decide +kernel, by decide⟩
theorem cb_X9_turned__X9_other : gCb yX9_other cX9_other 1 (some .int) wsX9_other (gR 1) (gR 2) 0 0 1 := ⟨rfl, rfl, rfl, by decide +kernel, by decide⟩
set_option maxHeartbeats 600000 in
set_option maxRecDepth 100000 in
/-- X9_turned -/
theorem k9_turned (l : Launch) (D : gD) (A : Nat → Prop) (hs : Nat) {G : gH} {a : Nat} {z : MI} {st : Nat → Int32} (ho : gMob G a z) (hs1 : gMst D G (a + 1) 855 st) {tx : List Int32} {li : ML} (hT : sTx st tx) (hL : sLi st li tx.length) {pos : Nat} (hpos : pos < tx.length) : gM l yX9_turned wsX9_turned (gR 2) D A hs 0 0 [.ref a, .int (nI pos)] G (gPi fun x G' => mTu tx li pos x ∧ G' = G) := by
  refine gM_intro (by decide) rfl rfl (Nat.le_of_ble_eq_true rfl) ?_
  intro p e s m args below meth c C
  have l3 := hL.2.1
  have t2 := hT.2.1
  have hloop : ∀ (n j : Nat) (o4 o5 : Option Value), li.1.length < j + n → j ≤ li.1.length → (∀ i : Nat, i < j → ¬ mHit li pos i) → gX p l e (gR 2) s m args below meth c D A 6 hs 0 0 (MQ below (gQ D A hs 0 (gPi fun x G' => mTu tx li pos x ∧ G' = G)) args s 0 0 A) G [some (.ref a), some (.int (nI pos)), some (.int (tx.getD pos 0)), some (.int (nI j)), o4, o5] 12 [] := by
    intro n
    induction n with
    | zero => intro j o4 o5 hm hj0 hI; exact absurd hm (by omega)
    | succ n ih =>
      intro j o4 o5 hm hj0 hI
      refine gx_iload_n C dX9_turned_12 rfl ?_
      refine gx_aload_n C dX9_turned_13 rfl ?_
      refine gx_get C fd_X9_turned_7 (hG := ho) (hv := by rfl) dX9_turned_14 ?_
      refine gx_iconst (v := nI 3) C dX9_turned_17 (by decide) ?_
      refine gx_ialdN C (hG := hs1) (hk := by omega) (hn := by omega) dX9_turned_18 ?_
      rw [hL.1]
      refine gx_icmp_ge (tgt := 148) C dX9_turned_19 (by decide) (fun c_19 => ?_) (fun c_19 => ?_)
      · have hj : ¬ j < li.1.length := fun q => nI_ge q (by omega) c_19
        refine gx_iload_n C dX9_turned_148 rfl ?_
        refine gx_zret (mc := 0) C rfl ?_ dX9_turned_149
        exact ⟨_, rfl, Or.inr ⟨fun k hk => hI k (by omega), rfl⟩, rfl⟩
      · have hj : j < li.1.length := by
          rcases Nat.lt_or_ge (j) (li.1.length) with q | q
          · exact q
          · exact absurd (nI_le q (by omega)) c_19
        have lj := hL.2.2.2.2.2.2 j hj
        have u1 := pF_lt (li.1.getD j 0)
        have u2 := pE_lt (li.1.getD j 0)
        refine gx_iload_n C dX9_turned_22 rfl ?_
        refine gx_callS C (k9_listed l D A hs j) cb_X9_turned__X9_listed gX9_turned_X9_listed rfl rfl (Nat.le_of_ble_eq_true rfl) ⟨Nat.le_refl _, Nat.le_refl _⟩ dX9_turned_23 (gx_ki fun r_23 G_23 h_23 => ?_)
        obtain ⟨rfl, rfl⟩ := h_23
        refine gx_istore C dX9_turned_26 (by decide) ?_
        refine gx_aload_n C dX9_turned_28 rfl ?_
        refine gx_get C fd_X9_turned_7 (hG := ho) (hv := by rfl) dX9_turned_29 ?_
        refine gx_iload C dX9_turned_32 rfl ?_
        refine gx_iconst (v := nI 1) C dX9_turned_34 (by decide) ?_
        refine gx_iadd C dX9_turned_35 ?_
        first | refine gx_top (nI_add _ _) ?_ | skip
        refine gx_ialdN C (hG := hs1) (hk := by omega) (hn := by omega) dX9_turned_36 ?_
        rw [lj.1.2.1, pFirst_nI]
        refine gx_istore C dX9_turned_37 (by decide) ?_
        refine gx_aload_n C dX9_turned_39 rfl ?_
        refine gx_iload_n C dX9_turned_40 rfl ?_
        refine gx_callV (ci := 8) (T := TX9) (N := 11) C (k9_isAccepted l D A hs ho hs1 hL j hj) cb_X9_turned__X9_isAccepted gX9_turned_X9_isAccepted rfl (hG := ho) rfl rfl (Nat.le_of_ble_eq_true rfl) ⟨Nat.le_refl _, Nat.le_refl _⟩ dX9_turned_41 (gx_ki fun r_41 G_41 h_41 => ?_)
        obtain ⟨rfl, rfl⟩ := h_41
        refine gx_if_eq (tgt := 142) C dX9_turned_44 (by decide) (fun c_44 => ?_) (fun c_44 => ?_)
        · have nh : ¬ mHit li pos j := fun q => gz_if0 c_44 q.1
          first | refine gx_iincN C dX9_turned_142 rfl (by decide) ?_ | refine gx_iinc1 C dX9_turned_142 rfl (by decide) ?_
          refine gx_goto (tgt := 12) C dX9_turned_145 (by decide) ?_
          exact ih (j + 1) _ _ (by omega) (by omega) (fun b hb => by
            by_cases y : b = j
            · subst y; exact nh
            · exact hI b (by omega))
        · refine gx_iload_n C dX9_turned_47 rfl ?_
          refine gx_iload C dX9_turned_48 rfl ?_
          refine gx_aload_n C dX9_turned_50 rfl ?_
          refine gx_iload C dX9_turned_51 rfl ?_
          refine gx_callV (ci := 8) (T := TX9) (N := 11) C (k9_behind l D A hs ho hs1 lj.1 (by omega)) cb_X9_turned__X9_behind gX9_turned_X9_behind rfl (hG := ho) rfl rfl (Nat.le_of_ble_eq_true rfl) ⟨Nat.le_refl _, Nat.le_refl _⟩ dX9_turned_53 (gx_ki fun r_53 G_53 h_53 => ?_)
          obtain ⟨rfl, rfl⟩ := h_53
          rw [pEnd_nI]
          refine gx_iconst (v := nI 1) C dX9_turned_56 (by decide) ?_
          refine gx_isub C dX9_turned_57 ?_
          refine gx_callS C (k9_in l D A hs (nI pos) (nI (pF (li.1.getD j 0))) (nI (pE (li.1.getD j 0)) - nI 1)) cb_X9_turned__X9_in gX9_turned_X9_in rfl rfl (Nat.le_of_ble_eq_true rfl) ⟨Nat.le_refl _, Nat.le_refl _⟩ dX9_turned_58 (gx_ki fun r_58 G_58 h_58 => ?_)
          obtain ⟨rfl, rfl⟩ := h_58
          refine gx_if_eq (tgt := 142) C dX9_turned_61 (by decide) (fun c_61 => ?_) (fun c_61 => ?_)
          · have nh : ¬ mHit li pos j := fun q => by
              have e9 := (out_ie (pos := pos) (f := pF (li.1.getD j 0)) (e := pE (li.1.getD j 0)) (by omega) (by omega) (by omega)).mpr ⟨q.2.1, q.2.2.1⟩
              rw [e9] at c_61
              exact absurd c_61 (by decide)
            first | refine gx_iincN C dX9_turned_142 rfl (by decide) ?_ | refine gx_iinc1 C dX9_turned_142 rfl (by decide) ?_
            refine gx_goto (tgt := 12) C dX9_turned_145 (by decide) ?_
            exact ih (j + 1) _ _ (by omega) (by omega) (fun b hb => by
              by_cases y : b = j
              · subst y; exact nh
              · exact hI b (by omega))
          · have hin := (out_ie (pos := pos) (f := pF (li.1.getD j 0)) (e := pE (li.1.getD j 0)) (by omega) (by omega) (by omega)).mp (pOut_i pOut_b c_61)
            refine gx_aload_n C dX9_turned_64 rfl ?_
            refine gx_get C fd_X9_turned_7 (hG := ho) (hv := by rfl) dX9_turned_65 ?_
            refine gx_iload C dX9_turned_68 rfl ?_
            refine gx_iconst (v := nI 0) C dX9_turned_70 (by decide) ?_
            refine gx_iadd C dX9_turned_71 ?_
            first | refine gx_top (nI_add _ _) ?_ | skip
            refine gx_ialdN C (hG := hs1) (hk := by omega) (hn := by omega) dX9_turned_72 ?_
            rw [show st (407 + 7 * j + 0) = _ from lj.1.1]
            refine gx_split 0 (fun c_73_0 => ?_) (fun c_73_0 => ?_)
            · refine gx_tableIn (off := 35) (tgt := 108) C dX9_turned_73 (by rw [c_73_0]; decide) (by rw [c_73_0]; decide) (by rw [c_73_0]; rfl) (by decide) ?_
              have hh : mHit li pos j := ⟨gz_if1 c_44, hin.1, hin.2, by rw [c_73_0]; decide⟩
              refine gx_iconst (v := (-1)) C dX9_turned_108 (by decide) ?_
              refine gx_zret (mc := 0) C rfl ?_ dX9_turned_109
              exact ⟨_, rfl, Or.inl ⟨j, hj, hh, hI, (if_pos c_73_0).symm⟩, rfl⟩
            -- else
            refine gx_split 1 (fun c_73_1 => ?_) (fun c_73_1 => ?_)
            · refine gx_tableIn (off := 69) (tgt := 142) C dX9_turned_73 (by rw [c_73_1]; decide) (by rw [c_73_1]; decide) (by rw [c_73_1]; rfl) (by decide) ?_
              have nh : ¬ mHit li pos j := fun q => by
                have e9 := pE_1 c_73_1
                have y1 := q.2.1
                have y2 := q.2.2.1
                omega
              first | refine gx_iincN C dX9_turned_142 rfl (by decide) ?_ | refine gx_iinc1 C dX9_turned_142 rfl (by decide) ?_
              refine gx_goto (tgt := 12) C dX9_turned_145 (by decide) ?_
              exact ih (j + 1) _ _ (by omega) (by omega) (fun b hb => by
                by_cases y : b = j
                · subst y; exact nh
                · exact hI b (by omega))
            -- else
            refine gx_split 2 (fun c_73_2 => ?_) (fun c_73_2 => ?_)
            · refine gx_tableIn (off := 37) (tgt := 110) C dX9_turned_73 (by rw [c_73_2]; decide) (by rw [c_73_2]; decide) (by rw [c_73_2]; rfl) (by decide) ?_
              have hh : mHit li pos j := ⟨gz_if1 c_44, hin.1, hin.2, by rw [c_73_2]; decide⟩
              refine gx_aload_n C dX9_turned_110 rfl ?_
              refine gx_get C fd_X9_turned_7 (hG := ho) (hv := by rfl) dX9_turned_111 ?_
              refine gx_iload C dX9_turned_114 rfl ?_
              refine gx_iconst (v := nI 3) C dX9_turned_116 (by decide) ?_
              refine gx_iadd C dX9_turned_117 ?_
              first | refine gx_top (nI_add _ _) ?_ | skip
              refine gx_ialdN C (hG := hs1) (hk := by omega) (hn := by omega) dX9_turned_118 ?_
              rw [lj.1.2.2.2]
              refine gx_zret (mc := 0) C rfl ?_ dX9_turned_119
              exact ⟨_, rfl, Or.inl ⟨j, hj, hh, hI, by rw [mVal, if_neg c_73_0, if_pos c_73_2]⟩, rfl⟩
            -- else
            refine gx_split 3 (fun c_73_3 => ?_) (fun c_73_3 => ?_)
            · refine gx_tableIn (off := 47) (tgt := 120) C dX9_turned_73 (by rw [c_73_3]; decide) (by rw [c_73_3]; decide) (by rw [c_73_3]; rfl) (by decide) ?_
              have hh : mHit li pos j := ⟨gz_if1 c_44, hin.1, hin.2, by rw [c_73_3]; decide⟩
              have e3 := pE_3 c_73_3
              have i3 := iOk_3 lj.2.1.1 c_73_3
              refine gx_aload_n C dX9_turned_120 rfl ?_
              refine gx_get C fd_X9_turned_7 (hG := ho) (hv := by rfl) dX9_turned_121 ?_
              refine gx_bipush (v := nI 27) C dX9_turned_124 (by decide) ?_
              refine gx_iconst (v := nI 2) C dX9_turned_126 (by decide) ?_
              refine gx_iload C dX9_turned_127 rfl ?_
              refine gx_imul C dX9_turned_129 ?_
              first | refine gx_top (pk_mul _ _) ?_ | skip
              refine gx_iadd C dX9_turned_130 ?_
              first | refine gx_top (nI_add _ _) ?_ | skip
              refine gx_iconst (v := nI 1) C dX9_turned_131 (by decide) ?_
              refine gx_iadd C dX9_turned_132 ?_
              first | refine gx_top (nI_add _ _) ?_ | skip
              refine gx_iload_n C dX9_turned_133 rfl ?_
              refine gx_isub C dX9_turned_134 ?_
              refine gx_top (y := nI (27 + (2 * pF (li.1.getD j 0) + 1 - pos))) ((pk_sub (by omega)).trans (congrArg nI (by omega))) ?_
              refine gx_ialdN C (hG := hs1) (hk := by omega) (hn := by omega) dX9_turned_135 ?_
              rw [(hT.2.2 _ (by omega)).1]
              refine gx_zret (mc := 0) C rfl ?_ dX9_turned_136
              exact ⟨_, rfl, Or.inl ⟨j, hj, hh, hI, by rw [mVal, if_neg c_73_0, if_neg c_73_2, if_pos c_73_3]⟩, rfl⟩
            -- else
            refine gx_split 4 (fun c_73_4 => ?_) (fun c_73_4 => ?_)
            · refine gx_tableIn (off := 64) (tgt := 137) C dX9_turned_73 (by rw [c_73_4]; decide) (by rw [c_73_4]; decide) (by rw [c_73_4]; rfl) (by decide) ?_
              have hh : mHit li pos j := ⟨gz_if1 c_44, hin.1, hin.2, by rw [c_73_4]; decide⟩
              refine gx_iload_n C dX9_turned_137 rfl ?_
              refine gx_callS C (k9_other l D A hs (tx.getD pos 0)) cb_X9_turned__X9_other gX9_turned_X9_other rfl rfl (Nat.le_of_ble_eq_true rfl) ⟨Nat.le_refl _, Nat.le_refl _⟩ dX9_turned_138 (gx_ki fun r_138 G_138 h_138 => ?_)
              obtain ⟨rfl, rfl⟩ := h_138
              refine gx_zret (mc := 0) C rfl ?_ dX9_turned_141
              exact ⟨_, rfl, Or.inl ⟨j, hj, hh, hI, by rw [mVal, if_neg c_73_0, if_neg c_73_2, if_neg c_73_3]⟩, rfl⟩
            -- else
            refine gx_tableOut (tgt := 142) C dX9_turned_73 (by have q_0 := gz_ne (n := 0) (by decide) c_73_0; have q_1 := gz_ne (n := 1) (by decide) c_73_1; have q_2 := gz_ne (n := 2) (by decide) c_73_2; have q_3 := gz_ne (n := 3) (by decide) c_73_3; have q_4 := gz_ne (n := 4) (by decide) c_73_4; omega) (by decide) ?_
            have nh : ¬ mHit li pos j := fun q => q.2.2.2 (iOk_5 lj.2.1.1 c_73_0 c_73_1 c_73_2 c_73_3 c_73_4)
            first | refine gx_iincN C dX9_turned_142 rfl (by decide) ?_ | refine gx_iinc1 C dX9_turned_142 rfl (by decide) ?_
            refine gx_goto (tgt := 12) C dX9_turned_145 (by decide) ?_
            exact ih (j + 1) _ _ (by omega) (by omega) (fun b hb => by
              by_cases y : b = j
              · subst y; exact nh
              · exact hI b (by omega))
  refine gx_aload_n C dX9_turned_0 rfl ?_
  refine gx_get C fd_X9_turned_7 (hG := ho) (hv := by rfl) dX9_turned_1 ?_
  refine gx_bipush (v := nI 27) C dX9_turned_4 (by decide) ?_
  refine gx_iload_n C dX9_turned_6 rfl ?_
  refine gx_iadd C dX9_turned_7 ?_
  first | refine gx_top (nI_add _ _) ?_ | skip
  refine gx_ialdN C (hG := hs1) (hk := by omega) (hn := by omega) dX9_turned_8 ?_
  rw [(hT.2.2 pos hpos).1]
  refine gx_istore_n C dX9_turned_9 (by decide) ?_
  refine gx_iconst (v := nI 0) C dX9_turned_10 (by decide) ?_
  refine gx_istore_n C dX9_turned_11 (by decide) ?_
  exact hloop (li.1.length + 1) 0 none none (by omega) (by omega) (fun i hi => absurd hi (by omega))
