/-! THE MODEL: marks against marks -/
def pE (z : Int32) : Nat := if pKind z = 0 then pS z else if pKind z = 1 then pF z else if pKind z = 3 then pF z + 2 else pF z + 1
theorem pEnd_nI (z : Int32) : pEnd z = nI (pE z) := by
  unfold pEnd pE
  rw [pFirst_nI, pSecond_nI]
  split
  · rfl
  · split
    · rfl
    · split
      · exact nI_add _ 2
      · exact nI_add _ 1
theorem pE_lt (z : Int32) : pE z < 300 := by
  have h1 := pF_lt z
  have h2 := pS_lt z
  unfold pE
  split
  · omega
  · split
    · omega
    · split <;> omega
theorem pE_1 {z : Int32} (h : pKind z = 1) : pE z = pF z := by
  rw [pE, if_neg (by rw [h]; decide), if_pos h]
theorem pE_g {z : Int32} {n : Nat} (h : iOk z n) (h1 : ¬ pKind z = 1) : pF z < pE z := by
  unfold pE
  rcases h.1 with h | h | h | h | h | h
  · rw [if_pos h.1]; exact h.2.1
  · exact absurd h.1 h1
  · rw [if_neg (by rw [h.1]; decide), if_neg (by rw [h.1]; decide), if_neg (by rw [h.1]; decide)]; omega
  · rw [if_neg (by rw [h.1]; decide), if_neg (by rw [h.1]; decide), if_pos h.1]; omega
  · rw [if_neg (by rw [h.1]; decide), if_neg (by rw [h.1]; decide), if_neg (by rw [h.1]; decide)]; omega
  · rw [if_neg (by rw [h.1]; decide), if_neg (by rw [h.1]; decide), if_neg (by rw [h.1]; decide)]; omega
theorem pOpp_3 {x y : Int32} (h : ¬ (x = y ∨ pKind x = 5 ∨ pKind y = 5)) (h1 : ¬ (pKind x = 1 ∧ pKind y = 1)) : pOpp x y = if pF x < pE y ∧ pF y < pE x then 1 else 0 := by
  have a1 := pF_lt x
  have a2 := pF_lt y
  have a3 := pE_lt x
  have a4 := pE_lt y
  rw [pOpp, if_neg h, if_neg h1, pFirst_nI, pFirst_nI, pEnd_nI, pEnd_nI]
  simp only [nI_ltI (show pF x < 2 ^ 31 by omega) (show pE y < 2 ^ 31 by omega), nI_ltI (show pF y < 2 ^ 31 by omega) (show pE x < 2 ^ 31 by omega)]
set_option maxRecDepth 20000 in
theorem in_X9_isWithin_X9 : ∀ w ∈ wsX90, w ∈ wsX9_isWithin := by decide +kernel
set_option maxRecDepth 20000 in
theorem fd_X9_isWithin_7 : gFd wsX9_isWithin RX9 7 8 RX9 TX9 11 0 := ⟨in_X9_isWithin_X9, rfl, by decide, by decide +kernel⟩
theorem cb_X9_isWithin__X9_behind : gCb yX9_behind cX9_behind 3 (some .int) wsX9_behind (gR 0) (gR 1) 0 0 1 := ⟨rfl, rfl, rfl, by decide +kernel, by decide⟩
set_option maxRecDepth 20000 in
theorem in_X9_areAgainst_X9 : ∀ w ∈ wsX90, w ∈ wsX9_areAgainst := by decide +kernel
set_option maxRecDepth 20000 in
theorem fd_X9_areAgainst_7 : gFd wsX9_areAgainst RX9 7 8 RX9 TX9 11 0 := ⟨in_X9_areAgainst_X9, rfl, by decide, by decide +kernel⟩
theorem cb_X9_areAgainst__X9_areLike : gCb yX9_areLike cX9_areLike 5 (some .boolean) wsX9_areLike (gR 0) (gR 2) 0 0 2 := ⟨rfl, rfl, rfl, by decide +kernel, by decide⟩
theorem cb_X9_areAgainst__X9_behind : gCb yX9_behind cX9_behind 3 (some .int) wsX9_behind (gR 0) (gR 2) 0 0 1 := ⟨rfl, rfl, rfl, by decide +kernel, by decide⟩
theorem cb_X9_areAgainst__X9_isWithin : gCb yX9_isWithin cX9_isWithin 3 (some .boolean) wsX9_isWithin (gR 1) (gR 2) 0 0 2 := ⟨rfl, rfl, rfl, by decide +kernel, by decide⟩
set_option maxRecDepth 20000 in
theorem in_X9_likeOf_X9 : ∀ w ∈ wsX90, w ∈ wsX9_likeOf := by decide +kernel
set_option maxRecDepth 20000 in
theorem fd_X9_likeOf_7 : gFd wsX9_likeOf RX9 7 8 RX9 TX9 11 0 := ⟨in_X9_likeOf_X9, rfl, by decide, by decide +kernel⟩
theorem cb_X9_likeOf__X9_listed : gCb yX9_listed cX9_listed 1 (some .int) wsX9_listed (gR 0) (gR 1) 0 0 1 := ⟨rfl, rfl, rfl, by decide +kernel, by decide⟩
theorem cb_X9_likeOf__X9_areLike : gCb yX9_areLike cX9_areLike 5 (some .boolean) wsX9_areLike (gR 0) (gR 1) 0 0 2 := ⟨rfl, rfl, rfl, by decide +kernel, by decide⟩
set_option maxRecDepth 20000 in
theorem in_X9_isBarred_X9 : ∀ w ∈ wsX90, w ∈ wsX9_isBarred := by decide +kernel
set_option maxRecDepth 20000 in
theorem fd_X9_isBarred_7 : gFd wsX9_isBarred RX9 7 8 RX9 TX9 11 0 := ⟨in_X9_isBarred_X9, rfl, by decide, by decide +kernel⟩
theorem cb_X9_isBarred__X9_listed : gCb yX9_listed cX9_listed 1 (some .int) wsX9_listed (gR 0) (gR 3) 0 0 1 := ⟨rfl, rfl, rfl, by decide +kernel, by decide⟩
theorem cb_X9_isBarred__X9_areAgainst : gCb yX9_areAgainst cX9_areAgainst 5 (some .boolean) wsX9_areAgainst (gR 2) (gR 3) 0 0 2 := ⟨rfl, rfl, rfl, by decide +kernel, by decide⟩
set_option maxHeartbeats 600000 in
set_option maxRecDepth 100000 in
/-- X9_isWithin -/
theorem k9_isWithin (l : Launch) (D : gD) (A : Nat → Prop) (hs : Nat) {G : gH} {a : Nat} {z : MI} {st : Nat → Int32} (ho : gMob G a z) (hs1 : gMst D G (a + 1) 855 st) {p1 q1 : Nat} {x1 y1 : Int32} (hp : mkR st p1 x1) (hq : mkR st q1 y1) (hp8 : p1 + 3 < 855) (hq8 : q1 + 3 < 855) : gM l yX9_isWithin wsX9_isWithin (gR 1) D A hs 0 0 [.ref a, .int (nI p1), .int (nI q1)] G (gPi fun x G' => x = (if pKind x1 = 1 ∧ pF y1 < pF x1 ∧ pF x1 < pE y1 then 1 else 0) ∧ G' = G) := by
  refine gM_intro (by decide) rfl rfl (Nat.le_of_ble_eq_true rfl) ?_
  intro p e s m args below meth c C
  have a1 := pF_lt x1
  have a2 := pF_lt y1
  have a4 := pE_lt y1
  refine gx_aload_n C dX9_isWithin_0 rfl ?_
  refine gx_get C fd_X9_isWithin_7 (hG := ho) (hv := by rfl) dX9_isWithin_1 ?_
  refine gx_iload_n C dX9_isWithin_4 rfl ?_
  refine gx_iconst (v := nI 0) C dX9_isWithin_5 (by decide) ?_
  refine gx_iadd C dX9_isWithin_6 ?_
  first | refine gx_top (nI_add _ _) ?_ | skip
  refine gx_ialdN C (hG := hs1) (hk := by omega) (hn := by omega) dX9_isWithin_7 ?_
  rw [show st (p1 + 0) = _ from hp.1]
  refine gx_iconst (v := 1) C dX9_isWithin_8 (by decide) ?_
  refine gx_icmp_ne (tgt := 51) C dX9_isWithin_9 (by decide) (fun c_9 => ?_) (fun c_9 => ?_)
  · have e : (if pKind x1 = 1 ∧ pF y1 < pF x1 ∧ pF x1 < pE y1 then (1 : Int32) else 0) = 0 := if_neg (fun q => c_9 q.1)
    refine gx_iconst (v := 0) C dX9_isWithin_51 (by decide) ?_
    refine gx_zret (mc := 0) C rfl ?_ dX9_isWithin_52
    exact ⟨_, rfl, e.symm, rfl⟩
  · refine gx_aload_n C dX9_isWithin_12 rfl ?_
    refine gx_get C fd_X9_isWithin_7 (hG := ho) (hv := by rfl) dX9_isWithin_13 ?_
    refine gx_iload_n C dX9_isWithin_16 rfl ?_
    refine gx_iconst (v := nI 1) C dX9_isWithin_17 (by decide) ?_
    refine gx_iadd C dX9_isWithin_18 ?_
    first | refine gx_top (nI_add _ _) ?_ | skip
    refine gx_ialdN C (hG := hs1) (hk := by omega) (hn := by omega) dX9_isWithin_19 ?_
    rw [hq.2.1, pFirst_nI]
    refine gx_aload_n C dX9_isWithin_20 rfl ?_
    refine gx_get C fd_X9_isWithin_7 (hG := ho) (hv := by rfl) dX9_isWithin_21 ?_
    refine gx_iload_n C dX9_isWithin_24 rfl ?_
    refine gx_iconst (v := nI 1) C dX9_isWithin_25 (by decide) ?_
    refine gx_iadd C dX9_isWithin_26 ?_
    first | refine gx_top (nI_add _ _) ?_ | skip
    refine gx_ialdN C (hG := hs1) (hk := by omega) (hn := by omega) dX9_isWithin_27 ?_
    rw [hp.2.1, pFirst_nI]
    refine gx_icmp_ge (tgt := 51) C dX9_isWithin_28 (by decide) (fun c_28 => ?_) (fun c_28 => ?_)
    · have e : (if pKind x1 = 1 ∧ pF y1 < pF x1 ∧ pF x1 < pE y1 then (1 : Int32) else 0) = 0 := if_neg (fun q => nI_ge q.2.1 (by omega) c_28)
      refine gx_iconst (v := 0) C dX9_isWithin_51 (by decide) ?_
      refine gx_zret (mc := 0) C rfl ?_ dX9_isWithin_52
      exact ⟨_, rfl, e.symm, rfl⟩
    · refine gx_aload_n C dX9_isWithin_31 rfl ?_
      refine gx_get C fd_X9_isWithin_7 (hG := ho) (hv := by rfl) dX9_isWithin_32 ?_
      refine gx_iload_n C dX9_isWithin_35 rfl ?_
      refine gx_iconst (v := nI 1) C dX9_isWithin_36 (by decide) ?_
      refine gx_iadd C dX9_isWithin_37 ?_
      first | refine gx_top (nI_add _ _) ?_ | skip
      refine gx_ialdN C (hG := hs1) (hk := by omega) (hn := by omega) dX9_isWithin_38 ?_
      rw [hp.2.1, pFirst_nI]
      refine gx_aload_n C dX9_isWithin_39 rfl ?_
      refine gx_iload_n C dX9_isWithin_40 rfl ?_
      refine gx_callV (ci := 8) (T := TX9) (N := 11) C (k9_behind l D A hs ho hs1 hq hq8) cb_X9_isWithin__X9_behind gX9_isWithin_X9_behind rfl (hG := ho) rfl rfl (Nat.le_of_ble_eq_true rfl) ⟨Nat.le_refl _, Nat.le_refl _⟩ dX9_isWithin_41 (gx_ki fun r_41 G_41 h_41 => ?_)
      obtain ⟨rfl, rfl⟩ := h_41
      rw [pEnd_nI]
      refine gx_icmp_ge (tgt := 51) C dX9_isWithin_44 (by decide) (fun c_44 => ?_) (fun c_44 => ?_)
      · have e : (if pKind x1 = 1 ∧ pF y1 < pF x1 ∧ pF x1 < pE y1 then (1 : Int32) else 0) = 0 := if_neg (fun q => nI_ge q.2.2 (by omega) c_44)
        refine gx_iconst (v := 0) C dX9_isWithin_51 (by decide) ?_
        refine gx_zret (mc := 0) C rfl ?_ dX9_isWithin_52
        exact ⟨_, rfl, e.symm, rfl⟩
      · have e : (if pKind x1 = 1 ∧ pF y1 < pF x1 ∧ pF x1 < pE y1 then (1 : Int32) else 0) = 1 := if_pos ⟨c_9, by
          rcases Nat.lt_or_ge (pF y1) (pF x1) with q | q
          · exact q
          · exact absurd (nI_le q (by omega)) c_28, by
          rcases Nat.lt_or_ge (pF x1) (pE y1) with q | q
          · exact q
          · exact absurd (nI_le q (by omega)) c_44⟩
        refine gx_iconst (v := 1) C dX9_isWithin_47 (by decide) ?_
        refine gx_goto (tgt := 52) C dX9_isWithin_48 (by decide) ?_
        refine gx_zret (mc := 0) C rfl ?_ dX9_isWithin_52
        exact ⟨_, rfl, e.symm, rfl⟩
set_option maxHeartbeats 600000 in
set_option maxRecDepth 100000 in
/-- X9_areAgainst -/
theorem k9_areAgainst (l : Launch) (D : gD) (A : Nat → Prop) (hs : Nat) {G : gH} {a : Nat} {z : MI} {st : Nat → Int32} (ho : gMob G a z) (hs1 : gMst D G (a + 1) 855 st) {p1 q1 : Nat} {x1 y1 : Int32} (hp : mkR st p1 x1) (hq : mkR st q1 y1) (hp8 : p1 + 3 < 855) (hq8 : q1 + 3 < 855) {n1 n2 : Nat} (hx1 : iOk x1 n1) (hy1 : iOk y1 n2) : gM l yX9_areAgainst wsX9_areAgainst (gR 2) D A hs 0 0 [.ref a, .int (nI p1), .int (nI q1)] G (gPi fun x G' => x = pOpp x1 y1 ∧ G' = G) := by
  refine gM_intro (by decide) rfl rfl (Nat.le_of_ble_eq_true rfl) ?_
  intro p e s m args below meth c C
  have a1 := pF_lt x1
  have a2 := pF_lt y1
  have a3 := pE_lt x1
  have a4 := pE_lt y1
  refine gx_aload_n C dX9_areAgainst_0 rfl ?_
  refine gx_get C fd_X9_areAgainst_7 (hG := ho) (hv := by rfl) dX9_areAgainst_1 ?_
  refine gx_iload_n C dX9_areAgainst_4 rfl ?_
  refine gx_iconst (v := nI 0) C dX9_areAgainst_5 (by decide) ?_
  refine gx_iadd C dX9_areAgainst_6 ?_
  first | refine gx_top (nI_add _ _) ?_ | skip
  refine gx_ialdN C (hG := hs1) (hk := by omega) (hn := by omega) dX9_areAgainst_7 ?_
  rw [show st (p1 + 0) = _ from hp.1]
  refine gx_iconst (v := 5) C dX9_areAgainst_8 (by decide) ?_
  refine gx_icmp_eq (tgt := 33) C dX9_areAgainst_9 (by decide) (fun c_9 => ?_) (fun c_9 => ?_)
  · have e : pOpp x1 y1 = 0 := if_pos (Or.inr (Or.inl c_9))
    refine gx_iconst (v := 0) C dX9_areAgainst_33 (by decide) ?_
    refine gx_zret (mc := 0) C rfl ?_ dX9_areAgainst_34
    exact ⟨_, rfl, e.symm, rfl⟩
  · refine gx_aload_n C dX9_areAgainst_12 rfl ?_
    refine gx_get C fd_X9_areAgainst_7 (hG := ho) (hv := by rfl) dX9_areAgainst_13 ?_
    refine gx_iload_n C dX9_areAgainst_16 rfl ?_
    refine gx_iconst (v := nI 0) C dX9_areAgainst_17 (by decide) ?_
    refine gx_iadd C dX9_areAgainst_18 ?_
    first | refine gx_top (nI_add _ _) ?_ | skip
    refine gx_ialdN C (hG := hs1) (hk := by omega) (hn := by omega) dX9_areAgainst_19 ?_
    rw [show st (q1 + 0) = _ from hq.1]
    refine gx_iconst (v := 5) C dX9_areAgainst_20 (by decide) ?_
    refine gx_icmp_eq (tgt := 33) C dX9_areAgainst_21 (by decide) (fun c_21 => ?_) (fun c_21 => ?_)
    · have e : pOpp x1 y1 = 0 := if_pos (Or.inr (Or.inr c_21))
      refine gx_iconst (v := 0) C dX9_areAgainst_33 (by decide) ?_
      refine gx_zret (mc := 0) C rfl ?_ dX9_areAgainst_34
      exact ⟨_, rfl, e.symm, rfl⟩
    · refine gx_aload_n C dX9_areAgainst_24 rfl ?_
      refine gx_iload_n C dX9_areAgainst_25 rfl ?_
      refine gx_iload_n C dX9_areAgainst_26 rfl ?_
      refine gx_callV (ci := 8) (T := TX9) (N := 11) C (k9_areLike l D A hs ho hs1 hp hq hp8 hq8) cb_X9_areAgainst__X9_areLike gX9_areAgainst_X9_areLike rfl (hG := ho) rfl rfl (Nat.le_of_ble_eq_true rfl) ⟨Nat.le_refl _, Nat.le_refl _⟩ dX9_areAgainst_27 (gx_ki fun r_27 G_27 h_27 => ?_)
      obtain ⟨rfl, rfl⟩ := h_27
      refine gx_if_eq (tgt := 35) C dX9_areAgainst_30 (by decide) (fun c_30 => ?_) (fun c_30 => ?_)
      · have hz1 : ¬ (x1 = y1 ∨ pKind x1 = 5 ∨ pKind y1 = 5) := fun q => q.elim (fun q => by rw [if_pos q] at c_30; exact absurd c_30 (by decide)) (fun q => q.elim c_9 c_21)
        refine gx_aload_n C dX9_areAgainst_35 rfl ?_
        refine gx_get C fd_X9_areAgainst_7 (hG := ho) (hv := by rfl) dX9_areAgainst_36 ?_
        refine gx_iload_n C dX9_areAgainst_39 rfl ?_
        refine gx_iconst (v := nI 0) C dX9_areAgainst_40 (by decide) ?_
        refine gx_iadd C dX9_areAgainst_41 ?_
        first | refine gx_top (nI_add _ _) ?_ | skip
        refine gx_ialdN C (hG := hs1) (hk := by omega) (hn := by omega) dX9_areAgainst_42 ?_
        rw [show st (p1 + 0) = _ from hp.1]
        refine gx_iconst (v := 1) C dX9_areAgainst_43 (by decide) ?_
        refine gx_icmp_ne (tgt := 84) C dX9_areAgainst_44 (by decide) (fun c_44 => ?_) (fun c_44 => ?_)
        · have hz2 : ¬ (pKind x1 = 1 ∧ pKind y1 = 1) := fun q => c_44 q.1
          refine gx_aload_n C dX9_areAgainst_84 rfl ?_
          refine gx_get C fd_X9_areAgainst_7 (hG := ho) (hv := by rfl) dX9_areAgainst_85 ?_
          refine gx_iload_n C dX9_areAgainst_88 rfl ?_
          refine gx_iconst (v := nI 1) C dX9_areAgainst_89 (by decide) ?_
          refine gx_iadd C dX9_areAgainst_90 ?_
          first | refine gx_top (nI_add _ _) ?_ | skip
          refine gx_ialdN C (hG := hs1) (hk := by omega) (hn := by omega) dX9_areAgainst_91 ?_
          rw [hp.2.1, pFirst_nI]
          refine gx_aload_n C dX9_areAgainst_92 rfl ?_
          refine gx_get C fd_X9_areAgainst_7 (hG := ho) (hv := by rfl) dX9_areAgainst_93 ?_
          refine gx_iload_n C dX9_areAgainst_96 rfl ?_
          refine gx_iconst (v := nI 1) C dX9_areAgainst_97 (by decide) ?_
          refine gx_iadd C dX9_areAgainst_98 ?_
          first | refine gx_top (nI_add _ _) ?_ | skip
          refine gx_ialdN C (hG := hs1) (hk := by omega) (hn := by omega) dX9_areAgainst_99 ?_
          rw [hq.2.1, pFirst_nI]
          refine gx_icmp_le (tgt := 114) C dX9_areAgainst_100 (by decide) (fun c_100 => ?_) (fun c_100 => ?_)
          · have u1 := (nI_leI (by omega) (by omega)).mp c_100
            refine gx_aload_n C dX9_areAgainst_114 rfl ?_
            refine gx_get C fd_X9_areAgainst_7 (hG := ho) (hv := by rfl) dX9_areAgainst_115 ?_
            refine gx_iload_n C dX9_areAgainst_118 rfl ?_
            refine gx_iconst (v := nI 1) C dX9_areAgainst_119 (by decide) ?_
            refine gx_iadd C dX9_areAgainst_120 ?_
            first | refine gx_top (nI_add _ _) ?_ | skip
            refine gx_ialdN C (hG := hs1) (hk := by omega) (hn := by omega) dX9_areAgainst_121 ?_
            rw [hq.2.1, pFirst_nI]
            refine gx_istore_n C dX9_areAgainst_122 (by decide) ?_
            refine gx_aload_n C dX9_areAgainst_123 rfl ?_
            refine gx_iload_n C dX9_areAgainst_124 rfl ?_
            refine gx_callV (ci := 8) (T := TX9) (N := 11) C (k9_behind l D A hs ho hs1 hp hp8) cb_X9_areAgainst__X9_behind gX9_areAgainst_X9_behind rfl (hG := ho) rfl rfl (Nat.le_of_ble_eq_true rfl) ⟨Nat.le_refl _, Nat.le_refl _⟩ dX9_areAgainst_125 (gx_ki fun r_125 G_125 h_125 => ?_)
            obtain ⟨rfl, rfl⟩ := h_125
            rw [pEnd_nI]
            refine gx_aload_n C dX9_areAgainst_128 rfl ?_
            refine gx_iload_n C dX9_areAgainst_129 rfl ?_
            refine gx_callV (ci := 8) (T := TX9) (N := 11) C (k9_behind l D A hs ho hs1 hq hq8) cb_X9_areAgainst__X9_behind gX9_areAgainst_X9_behind rfl (hG := ho) rfl rfl (Nat.le_of_ble_eq_true rfl) ⟨Nat.le_refl _, Nat.le_refl _⟩ dX9_areAgainst_130 (gx_ki fun r_130 G_130 h_130 => ?_)
            obtain ⟨rfl, rfl⟩ := h_130
            rw [pEnd_nI]
            refine gx_icmp_ge (tgt := 144) C dX9_areAgainst_133 (by decide) (fun c_133 => ?_) (fun c_133 => ?_)
            · have u2 := (nI_leI (by omega) (by omega)).mp c_133
              refine gx_aload_n C dX9_areAgainst_144 rfl ?_
              refine gx_iload_n C dX9_areAgainst_145 rfl ?_
              refine gx_callV (ci := 8) (T := TX9) (N := 11) C (k9_behind l D A hs ho hs1 hq hq8) cb_X9_areAgainst__X9_behind gX9_areAgainst_X9_behind rfl (hG := ho) rfl rfl (Nat.le_of_ble_eq_true rfl) ⟨Nat.le_refl _, Nat.le_refl _⟩ dX9_areAgainst_146 (gx_ki fun r_146 G_146 h_146 => ?_)
              obtain ⟨rfl, rfl⟩ := h_146
              rw [pEnd_nI]
              refine gx_istore C dX9_areAgainst_149 (by decide) ?_
              refine gx_iload_n C dX9_areAgainst_151 rfl ?_
              refine gx_iload C dX9_areAgainst_152 rfl ?_
              refine gx_icmp_lt (tgt := 175) C dX9_areAgainst_154 (by decide) (fun c_154 => ?_) (fun c_154 => ?_)
              · have u3 := (nI_ltI (by omega) (by omega)).mp c_154
                have e : pOpp x1 y1 = 1 := by rw [pOpp_3 hz1 hz2, if_pos (by omega)]
                refine gx_iconst (v := 1) C dX9_areAgainst_175 (by decide) ?_
                refine gx_goto (tgt := 180) C dX9_areAgainst_176 (by decide) ?_
                refine gx_zret (mc := 0) C rfl ?_ dX9_areAgainst_180
                exact ⟨_, rfl, e.symm, rfl⟩
              · have u3 := fun q => c_154 ((nI_ltI (by omega) (by omega)).mpr q)
                refine gx_aload_n C dX9_areAgainst_157 rfl ?_
                refine gx_iload_n C dX9_areAgainst_158 rfl ?_
                refine gx_iload_n C dX9_areAgainst_159 rfl ?_
                refine gx_callV (ci := 8) (T := TX9) (N := 11) C (k9_isWithin l D A hs ho hs1 hp hq hp8 hq8) cb_X9_areAgainst__X9_isWithin gX9_areAgainst_X9_isWithin rfl (hG := ho) rfl rfl (Nat.le_of_ble_eq_true rfl) ⟨Nat.le_refl _, Nat.le_refl _⟩ dX9_areAgainst_160 (gx_ki fun r_160 G_160 h_160 => ?_)
                obtain ⟨rfl, rfl⟩ := h_160
                refine gx_if_ne (tgt := 175) C dX9_areAgainst_163 (by decide) (fun c_163 => ?_) (fun c_163 => ?_)
                · have w1 : pKind x1 = 1 ∧ pF y1 < pF x1 ∧ pF x1 < pE y1 := by
                    by_cases q : pKind x1 = 1 ∧ pF y1 < pF x1 ∧ pF x1 < pE y1
                    · exact q
                    · exact absurd (if_neg q) c_163
                  have w2 := pE_1 w1.1
                  have e : pOpp x1 y1 = 1 := by rw [pOpp_3 hz1 hz2, if_pos (by omega)]
                  refine gx_iconst (v := 1) C dX9_areAgainst_175 (by decide) ?_
                  refine gx_goto (tgt := 180) C dX9_areAgainst_176 (by decide) ?_
                  refine gx_zret (mc := 0) C rfl ?_ dX9_areAgainst_180
                  exact ⟨_, rfl, e.symm, rfl⟩
                · have w1 : ¬ (pKind x1 = 1 ∧ pF y1 < pF x1 ∧ pF x1 < pE y1) := fun q => by
                    rw [if_pos q] at c_163; exact absurd c_163 (by decide)
                  refine gx_aload_n C dX9_areAgainst_166 rfl ?_
                  refine gx_iload_n C dX9_areAgainst_167 rfl ?_
                  refine gx_iload_n C dX9_areAgainst_168 rfl ?_
                  refine gx_callV (ci := 8) (T := TX9) (N := 11) C (k9_isWithin l D A hs ho hs1 hq hp hq8 hp8) cb_X9_areAgainst__X9_isWithin gX9_areAgainst_X9_isWithin rfl (hG := ho) rfl rfl (Nat.le_of_ble_eq_true rfl) ⟨Nat.le_refl _, Nat.le_refl _⟩ dX9_areAgainst_169 (gx_ki fun r_169 G_169 h_169 => ?_)
                  obtain ⟨rfl, rfl⟩ := h_169
                  refine gx_if_eq (tgt := 179) C dX9_areAgainst_172 (by decide) (fun c_172 => ?_) (fun c_172 => ?_)
                  · have w2 : ¬ (pKind y1 = 1 ∧ pF x1 < pF y1 ∧ pF y1 < pE x1) := fun q => by
                      rw [if_pos q] at c_172; exact absurd c_172 (by decide)
                    have e : pOpp x1 y1 = 0 := by
                      rw [pOpp_3 hz1 hz2, if_neg]
                      intro q
                      by_cases kx : pKind x1 = 1
                      · have w3 := pE_1 kx
                        exact w1 ⟨kx, by omega, by omega⟩
                      · by_cases ky : pKind y1 = 1
                        · have w3 := pE_1 ky
                          exact w2 ⟨ky, by omega, by omega⟩
                        · have w3 := pE_g hx1 kx
                          have w4 := pE_g hy1 ky
                          exact u3 (by omega)
                    refine gx_iconst (v := 0) C dX9_areAgainst_179 (by decide) ?_
                    refine gx_zret (mc := 0) C rfl ?_ dX9_areAgainst_180
                    exact ⟨_, rfl, e.symm, rfl⟩
                  · have w2 : pKind y1 = 1 ∧ pF x1 < pF y1 ∧ pF y1 < pE x1 := by
                      by_cases q : pKind y1 = 1 ∧ pF x1 < pF y1 ∧ pF y1 < pE x1
                      · exact q
                      · exact absurd (if_neg q) c_172
                    have w3 := pE_1 w2.1
                    have e : pOpp x1 y1 = 1 := by rw [pOpp_3 hz1 hz2, if_pos (by omega)]
                    refine gx_iconst (v := 1) C dX9_areAgainst_175 (by decide) ?_
                    refine gx_goto (tgt := 180) C dX9_areAgainst_176 (by decide) ?_
                    refine gx_zret (mc := 0) C rfl ?_ dX9_areAgainst_180
                    exact ⟨_, rfl, e.symm, rfl⟩
            · have u2 : pE x1 < pE y1 := by
                rcases Nat.lt_or_ge (pE x1) (pE y1) with q | q
                · exact q
                · exact absurd (nI_le q (by omega)) c_133
              refine gx_aload_n C dX9_areAgainst_136 rfl ?_
              refine gx_iload_n C dX9_areAgainst_137 rfl ?_
              refine gx_callV (ci := 8) (T := TX9) (N := 11) C (k9_behind l D A hs ho hs1 hp hp8) cb_X9_areAgainst__X9_behind gX9_areAgainst_X9_behind rfl (hG := ho) rfl rfl (Nat.le_of_ble_eq_true rfl) ⟨Nat.le_refl _, Nat.le_refl _⟩ dX9_areAgainst_138 (gx_ki fun r_138 G_138 h_138 => ?_)
              obtain ⟨rfl, rfl⟩ := h_138
              rw [pEnd_nI]
              refine gx_goto (tgt := 149) C dX9_areAgainst_141 (by decide) ?_
              refine gx_istore C dX9_areAgainst_149 (by decide) ?_
              refine gx_iload_n C dX9_areAgainst_151 rfl ?_
              refine gx_iload C dX9_areAgainst_152 rfl ?_
              refine gx_icmp_lt (tgt := 175) C dX9_areAgainst_154 (by decide) (fun c_154 => ?_) (fun c_154 => ?_)
              · have u3 := (nI_ltI (by omega) (by omega)).mp c_154
                have e : pOpp x1 y1 = 1 := by rw [pOpp_3 hz1 hz2, if_pos (by omega)]
                refine gx_iconst (v := 1) C dX9_areAgainst_175 (by decide) ?_
                refine gx_goto (tgt := 180) C dX9_areAgainst_176 (by decide) ?_
                refine gx_zret (mc := 0) C rfl ?_ dX9_areAgainst_180
                exact ⟨_, rfl, e.symm, rfl⟩
              · have u3 := fun q => c_154 ((nI_ltI (by omega) (by omega)).mpr q)
                refine gx_aload_n C dX9_areAgainst_157 rfl ?_
                refine gx_iload_n C dX9_areAgainst_158 rfl ?_
                refine gx_iload_n C dX9_areAgainst_159 rfl ?_
                refine gx_callV (ci := 8) (T := TX9) (N := 11) C (k9_isWithin l D A hs ho hs1 hp hq hp8 hq8) cb_X9_areAgainst__X9_isWithin gX9_areAgainst_X9_isWithin rfl (hG := ho) rfl rfl (Nat.le_of_ble_eq_true rfl) ⟨Nat.le_refl _, Nat.le_refl _⟩ dX9_areAgainst_160 (gx_ki fun r_160 G_160 h_160 => ?_)
                obtain ⟨rfl, rfl⟩ := h_160
                refine gx_if_ne (tgt := 175) C dX9_areAgainst_163 (by decide) (fun c_163 => ?_) (fun c_163 => ?_)
                · have w1 : pKind x1 = 1 ∧ pF y1 < pF x1 ∧ pF x1 < pE y1 := by
                    by_cases q : pKind x1 = 1 ∧ pF y1 < pF x1 ∧ pF x1 < pE y1
                    · exact q
                    · exact absurd (if_neg q) c_163
                  have w2 := pE_1 w1.1
                  have e : pOpp x1 y1 = 1 := by rw [pOpp_3 hz1 hz2, if_pos (by omega)]
                  refine gx_iconst (v := 1) C dX9_areAgainst_175 (by decide) ?_
                  refine gx_goto (tgt := 180) C dX9_areAgainst_176 (by decide) ?_
                  refine gx_zret (mc := 0) C rfl ?_ dX9_areAgainst_180
                  exact ⟨_, rfl, e.symm, rfl⟩
                · have w1 : ¬ (pKind x1 = 1 ∧ pF y1 < pF x1 ∧ pF x1 < pE y1) := fun q => by
                    rw [if_pos q] at c_163; exact absurd c_163 (by decide)
                  refine gx_aload_n C dX9_areAgainst_166 rfl ?_
                  refine gx_iload_n C dX9_areAgainst_167 rfl ?_
                  refine gx_iload_n C dX9_areAgainst_168 rfl ?_
                  refine gx_callV (ci := 8) (T := TX9) (N := 11) C (k9_isWithin l D A hs ho hs1 hq hp hq8 hp8) cb_X9_areAgainst__X9_isWithin gX9_areAgainst_X9_isWithin rfl (hG := ho) rfl rfl (Nat.le_of_ble_eq_true rfl) ⟨Nat.le_refl _, Nat.le_refl _⟩ dX9_areAgainst_169 (gx_ki fun r_169 G_169 h_169 => ?_)
                  obtain ⟨rfl, rfl⟩ := h_169
                  refine gx_if_eq (tgt := 179) C dX9_areAgainst_172 (by decide) (fun c_172 => ?_) (fun c_172 => ?_)
                  · have w2 : ¬ (pKind y1 = 1 ∧ pF x1 < pF y1 ∧ pF y1 < pE x1) := fun q => by
                      rw [if_pos q] at c_172; exact absurd c_172 (by decide)
                    have e : pOpp x1 y1 = 0 := by
                      rw [pOpp_3 hz1 hz2, if_neg]
                      intro q
                      by_cases kx : pKind x1 = 1
                      · have w3 := pE_1 kx
                        exact w1 ⟨kx, by omega, by omega⟩
                      · by_cases ky : pKind y1 = 1
                        · have w3 := pE_1 ky
                          exact w2 ⟨ky, by omega, by omega⟩
                        · have w3 := pE_g hx1 kx
                          have w4 := pE_g hy1 ky
                          exact u3 (by omega)
                    refine gx_iconst (v := 0) C dX9_areAgainst_179 (by decide) ?_
                    refine gx_zret (mc := 0) C rfl ?_ dX9_areAgainst_180
                    exact ⟨_, rfl, e.symm, rfl⟩
                  · have w2 : pKind y1 = 1 ∧ pF x1 < pF y1 ∧ pF y1 < pE x1 := by
                      by_cases q : pKind y1 = 1 ∧ pF x1 < pF y1 ∧ pF y1 < pE x1
                      · exact q
                      · exact absurd (if_neg q) c_172
                    have w3 := pE_1 w2.1
                    have e : pOpp x1 y1 = 1 := by rw [pOpp_3 hz1 hz2, if_pos (by omega)]
                    refine gx_iconst (v := 1) C dX9_areAgainst_175 (by decide) ?_
                    refine gx_goto (tgt := 180) C dX9_areAgainst_176 (by decide) ?_
                    refine gx_zret (mc := 0) C rfl ?_ dX9_areAgainst_180
                    exact ⟨_, rfl, e.symm, rfl⟩
          · have u1 : pF y1 < pF x1 := by
              rcases Nat.lt_or_ge (pF y1) (pF x1) with q | q
              · exact q
              · exact absurd (nI_le q (by omega)) c_100
            refine gx_aload_n C dX9_areAgainst_103 rfl ?_
            refine gx_get C fd_X9_areAgainst_7 (hG := ho) (hv := by rfl) dX9_areAgainst_104 ?_
            refine gx_iload_n C dX9_areAgainst_107 rfl ?_
            refine gx_iconst (v := nI 1) C dX9_areAgainst_108 (by decide) ?_
            refine gx_iadd C dX9_areAgainst_109 ?_
            first | refine gx_top (nI_add _ _) ?_ | skip
            refine gx_ialdN C (hG := hs1) (hk := by omega) (hn := by omega) dX9_areAgainst_110 ?_
            rw [hp.2.1, pFirst_nI]
            refine gx_goto (tgt := 122) C dX9_areAgainst_111 (by decide) ?_
            refine gx_istore_n C dX9_areAgainst_122 (by decide) ?_
            refine gx_aload_n C dX9_areAgainst_123 rfl ?_
            refine gx_iload_n C dX9_areAgainst_124 rfl ?_
            refine gx_callV (ci := 8) (T := TX9) (N := 11) C (k9_behind l D A hs ho hs1 hp hp8) cb_X9_areAgainst__X9_behind gX9_areAgainst_X9_behind rfl (hG := ho) rfl rfl (Nat.le_of_ble_eq_true rfl) ⟨Nat.le_refl _, Nat.le_refl _⟩ dX9_areAgainst_125 (gx_ki fun r_125 G_125 h_125 => ?_)
            obtain ⟨rfl, rfl⟩ := h_125
            rw [pEnd_nI]
            refine gx_aload_n C dX9_areAgainst_128 rfl ?_
            refine gx_iload_n C dX9_areAgainst_129 rfl ?_
            refine gx_callV (ci := 8) (T := TX9) (N := 11) C (k9_behind l D A hs ho hs1 hq hq8) cb_X9_areAgainst__X9_behind gX9_areAgainst_X9_behind rfl (hG := ho) rfl rfl (Nat.le_of_ble_eq_true rfl) ⟨Nat.le_refl _, Nat.le_refl _⟩ dX9_areAgainst_130 (gx_ki fun r_130 G_130 h_130 => ?_)
            obtain ⟨rfl, rfl⟩ := h_130
            rw [pEnd_nI]
            refine gx_icmp_ge (tgt := 144) C dX9_areAgainst_133 (by decide) (fun c_133 => ?_) (fun c_133 => ?_)
            · have u2 := (nI_leI (by omega) (by omega)).mp c_133
              refine gx_aload_n C dX9_areAgainst_144 rfl ?_
              refine gx_iload_n C dX9_areAgainst_145 rfl ?_
              refine gx_callV (ci := 8) (T := TX9) (N := 11) C (k9_behind l D A hs ho hs1 hq hq8) cb_X9_areAgainst__X9_behind gX9_areAgainst_X9_behind rfl (hG := ho) rfl rfl (Nat.le_of_ble_eq_true rfl) ⟨Nat.le_refl _, Nat.le_refl _⟩ dX9_areAgainst_146 (gx_ki fun r_146 G_146 h_146 => ?_)
              obtain ⟨rfl, rfl⟩ := h_146
              rw [pEnd_nI]
              refine gx_istore C dX9_areAgainst_149 (by decide) ?_
              refine gx_iload_n C dX9_areAgainst_151 rfl ?_
              refine gx_iload C dX9_areAgainst_152 rfl ?_
              refine gx_icmp_lt (tgt := 175) C dX9_areAgainst_154 (by decide) (fun c_154 => ?_) (fun c_154 => ?_)
              · have u3 := (nI_ltI (by omega) (by omega)).mp c_154
                have e : pOpp x1 y1 = 1 := by rw [pOpp_3 hz1 hz2, if_pos (by omega)]
                refine gx_iconst (v := 1) C dX9_areAgainst_175 (by decide) ?_
                refine gx_goto (tgt := 180) C dX9_areAgainst_176 (by decide) ?_
                refine gx_zret (mc := 0) C rfl ?_ dX9_areAgainst_180
                exact ⟨_, rfl, e.symm, rfl⟩
              · have u3 := fun q => c_154 ((nI_ltI (by omega) (by omega)).mpr q)
                refine gx_aload_n C dX9_areAgainst_157 rfl ?_
                refine gx_iload_n C dX9_areAgainst_158 rfl ?_
                refine gx_iload_n C dX9_areAgainst_159 rfl ?_
                refine gx_callV (ci := 8) (T := TX9) (N := 11) C (k9_isWithin l D A hs ho hs1 hp hq hp8 hq8) cb_X9_areAgainst__X9_isWithin gX9_areAgainst_X9_isWithin rfl (hG := ho) rfl rfl (Nat.le_of_ble_eq_true rfl) ⟨Nat.le_refl _, Nat.le_refl _⟩ dX9_areAgainst_160 (gx_ki fun r_160 G_160 h_160 => ?_)
                obtain ⟨rfl, rfl⟩ := h_160
                refine gx_if_ne (tgt := 175) C dX9_areAgainst_163 (by decide) (fun c_163 => ?_) (fun c_163 => ?_)
                · have w1 : pKind x1 = 1 ∧ pF y1 < pF x1 ∧ pF x1 < pE y1 := by
                    by_cases q : pKind x1 = 1 ∧ pF y1 < pF x1 ∧ pF x1 < pE y1
                    · exact q
                    · exact absurd (if_neg q) c_163
                  have w2 := pE_1 w1.1
                  have e : pOpp x1 y1 = 1 := by rw [pOpp_3 hz1 hz2, if_pos (by omega)]
                  refine gx_iconst (v := 1) C dX9_areAgainst_175 (by decide) ?_
                  refine gx_goto (tgt := 180) C dX9_areAgainst_176 (by decide) ?_
                  refine gx_zret (mc := 0) C rfl ?_ dX9_areAgainst_180
                  exact ⟨_, rfl, e.symm, rfl⟩
                · have w1 : ¬ (pKind x1 = 1 ∧ pF y1 < pF x1 ∧ pF x1 < pE y1) := fun q => by
                    rw [if_pos q] at c_163; exact absurd c_163 (by decide)
                  refine gx_aload_n C dX9_areAgainst_166 rfl ?_
                  refine gx_iload_n C dX9_areAgainst_167 rfl ?_
                  refine gx_iload_n C dX9_areAgainst_168 rfl ?_
                  refine gx_callV (ci := 8) (T := TX9) (N := 11) C (k9_isWithin l D A hs ho hs1 hq hp hq8 hp8) cb_X9_areAgainst__X9_isWithin gX9_areAgainst_X9_isWithin rfl (hG := ho) rfl rfl (Nat.le_of_ble_eq_true rfl) ⟨Nat.le_refl _, Nat.le_refl _⟩ dX9_areAgainst_169 (gx_ki fun r_169 G_169 h_169 => ?_)
                  obtain ⟨rfl, rfl⟩ := h_169
                  refine gx_if_eq (tgt := 179) C dX9_areAgainst_172 (by decide) (fun c_172 => ?_) (fun c_172 => ?_)
                  · have w2 : ¬ (pKind y1 = 1 ∧ pF x1 < pF y1 ∧ pF y1 < pE x1) := fun q => by
                      rw [if_pos q] at c_172; exact absurd c_172 (by decide)
                    have e : pOpp x1 y1 = 0 := by
                      rw [pOpp_3 hz1 hz2, if_neg]
                      intro q
                      by_cases kx : pKind x1 = 1
                      · have w3 := pE_1 kx
                        exact w1 ⟨kx, by omega, by omega⟩
                      · by_cases ky : pKind y1 = 1
                        · have w3 := pE_1 ky
                          exact w2 ⟨ky, by omega, by omega⟩
                        · have w3 := pE_g hx1 kx
                          have w4 := pE_g hy1 ky
                          exact u3 (by omega)
                    refine gx_iconst (v := 0) C dX9_areAgainst_179 (by decide) ?_
                    refine gx_zret (mc := 0) C rfl ?_ dX9_areAgainst_180
                    exact ⟨_, rfl, e.symm, rfl⟩
                  · have w2 : pKind y1 = 1 ∧ pF x1 < pF y1 ∧ pF y1 < pE x1 := by
                      by_cases q : pKind y1 = 1 ∧ pF x1 < pF y1 ∧ pF y1 < pE x1
                      · exact q
                      · exact absurd (if_neg q) c_172
                    have w3 := pE_1 w2.1
                    have e : pOpp x1 y1 = 1 := by rw [pOpp_3 hz1 hz2, if_pos (by omega)]
                    refine gx_iconst (v := 1) C dX9_areAgainst_175 (by decide) ?_
                    refine gx_goto (tgt := 180) C dX9_areAgainst_176 (by decide) ?_
                    refine gx_zret (mc := 0) C rfl ?_ dX9_areAgainst_180
                    exact ⟨_, rfl, e.symm, rfl⟩
            · have u2 : pE x1 < pE y1 := by
                rcases Nat.lt_or_ge (pE x1) (pE y1) with q | q
                · exact q
                · exact absurd (nI_le q (by omega)) c_133
              refine gx_aload_n C dX9_areAgainst_136 rfl ?_
              refine gx_iload_n C dX9_areAgainst_137 rfl ?_
              refine gx_callV (ci := 8) (T := TX9) (N := 11) C (k9_behind l D A hs ho hs1 hp hp8) cb_X9_areAgainst__X9_behind gX9_areAgainst_X9_behind rfl (hG := ho) rfl rfl (Nat.le_of_ble_eq_true rfl) ⟨Nat.le_refl _, Nat.le_refl _⟩ dX9_areAgainst_138 (gx_ki fun r_138 G_138 h_138 => ?_)
              obtain ⟨rfl, rfl⟩ := h_138
              rw [pEnd_nI]
              refine gx_goto (tgt := 149) C dX9_areAgainst_141 (by decide) ?_
              refine gx_istore C dX9_areAgainst_149 (by decide) ?_
              refine gx_iload_n C dX9_areAgainst_151 rfl ?_
              refine gx_iload C dX9_areAgainst_152 rfl ?_
              refine gx_icmp_lt (tgt := 175) C dX9_areAgainst_154 (by decide) (fun c_154 => ?_) (fun c_154 => ?_)
              · have u3 := (nI_ltI (by omega) (by omega)).mp c_154
                have e : pOpp x1 y1 = 1 := by rw [pOpp_3 hz1 hz2, if_pos (by omega)]
                refine gx_iconst (v := 1) C dX9_areAgainst_175 (by decide) ?_
                refine gx_goto (tgt := 180) C dX9_areAgainst_176 (by decide) ?_
                refine gx_zret (mc := 0) C rfl ?_ dX9_areAgainst_180
                exact ⟨_, rfl, e.symm, rfl⟩
              · have u3 := fun q => c_154 ((nI_ltI (by omega) (by omega)).mpr q)
                refine gx_aload_n C dX9_areAgainst_157 rfl ?_
                refine gx_iload_n C dX9_areAgainst_158 rfl ?_
                refine gx_iload_n C dX9_areAgainst_159 rfl ?_
                refine gx_callV (ci := 8) (T := TX9) (N := 11) C (k9_isWithin l D A hs ho hs1 hp hq hp8 hq8) cb_X9_areAgainst__X9_isWithin gX9_areAgainst_X9_isWithin rfl (hG := ho) rfl rfl (Nat.le_of_ble_eq_true rfl) ⟨Nat.le_refl _, Nat.le_refl _⟩ dX9_areAgainst_160 (gx_ki fun r_160 G_160 h_160 => ?_)
                obtain ⟨rfl, rfl⟩ := h_160
                refine gx_if_ne (tgt := 175) C dX9_areAgainst_163 (by decide) (fun c_163 => ?_) (fun c_163 => ?_)
                · have w1 : pKind x1 = 1 ∧ pF y1 < pF x1 ∧ pF x1 < pE y1 := by
                    by_cases q : pKind x1 = 1 ∧ pF y1 < pF x1 ∧ pF x1 < pE y1
                    · exact q
                    · exact absurd (if_neg q) c_163
                  have w2 := pE_1 w1.1
                  have e : pOpp x1 y1 = 1 := by rw [pOpp_3 hz1 hz2, if_pos (by omega)]
                  refine gx_iconst (v := 1) C dX9_areAgainst_175 (by decide) ?_
                  refine gx_goto (tgt := 180) C dX9_areAgainst_176 (by decide) ?_
                  refine gx_zret (mc := 0) C rfl ?_ dX9_areAgainst_180
                  exact ⟨_, rfl, e.symm, rfl⟩
                · have w1 : ¬ (pKind x1 = 1 ∧ pF y1 < pF x1 ∧ pF x1 < pE y1) := fun q => by
                    rw [if_pos q] at c_163; exact absurd c_163 (by decide)
                  refine gx_aload_n C dX9_areAgainst_166 rfl ?_
                  refine gx_iload_n C dX9_areAgainst_167 rfl ?_
                  refine gx_iload_n C dX9_areAgainst_168 rfl ?_
                  refine gx_callV (ci := 8) (T := TX9) (N := 11) C (k9_isWithin l D A hs ho hs1 hq hp hq8 hp8) cb_X9_areAgainst__X9_isWithin gX9_areAgainst_X9_isWithin rfl (hG := ho) rfl rfl (Nat.le_of_ble_eq_true rfl) ⟨Nat.le_refl _, Nat.le_refl _⟩ dX9_areAgainst_169 (gx_ki fun r_169 G_169 h_169 => ?_)
                  obtain ⟨rfl, rfl⟩ := h_169
                  refine gx_if_eq (tgt := 179) C dX9_areAgainst_172 (by decide) (fun c_172 => ?_) (fun c_172 => ?_)
                  · have w2 : ¬ (pKind y1 = 1 ∧ pF x1 < pF y1 ∧ pF y1 < pE x1) := fun q => by
                      rw [if_pos q] at c_172; exact absurd c_172 (by decide)
                    have e : pOpp x1 y1 = 0 := by
                      rw [pOpp_3 hz1 hz2, if_neg]
                      intro q
                      by_cases kx : pKind x1 = 1
                      · have w3 := pE_1 kx
                        exact w1 ⟨kx, by omega, by omega⟩
                      · by_cases ky : pKind y1 = 1
                        · have w3 := pE_1 ky
                          exact w2 ⟨ky, by omega, by omega⟩
                        · have w3 := pE_g hx1 kx
                          have w4 := pE_g hy1 ky
                          exact u3 (by omega)
                    refine gx_iconst (v := 0) C dX9_areAgainst_179 (by decide) ?_
                    refine gx_zret (mc := 0) C rfl ?_ dX9_areAgainst_180
                    exact ⟨_, rfl, e.symm, rfl⟩
                  · have w2 : pKind y1 = 1 ∧ pF x1 < pF y1 ∧ pF y1 < pE x1 := by
                      by_cases q : pKind y1 = 1 ∧ pF x1 < pF y1 ∧ pF y1 < pE x1
                      · exact q
                      · exact absurd (if_neg q) c_172
                    have w3 := pE_1 w2.1
                    have e : pOpp x1 y1 = 1 := by rw [pOpp_3 hz1 hz2, if_pos (by omega)]
                    refine gx_iconst (v := 1) C dX9_areAgainst_175 (by decide) ?_
                    refine gx_goto (tgt := 180) C dX9_areAgainst_176 (by decide) ?_
                    refine gx_zret (mc := 0) C rfl ?_ dX9_areAgainst_180
                    exact ⟨_, rfl, e.symm, rfl⟩
        · refine gx_aload_n C dX9_areAgainst_47 rfl ?_
          refine gx_get C fd_X9_areAgainst_7 (hG := ho) (hv := by rfl) dX9_areAgainst_48 ?_
          refine gx_iload_n C dX9_areAgainst_51 rfl ?_
          refine gx_iconst (v := nI 0) C dX9_areAgainst_52 (by decide) ?_
          refine gx_iadd C dX9_areAgainst_53 ?_
          first | refine gx_top (nI_add _ _) ?_ | skip
          refine gx_ialdN C (hG := hs1) (hk := by omega) (hn := by omega) dX9_areAgainst_54 ?_
          rw [show st (q1 + 0) = _ from hq.1]
          refine gx_iconst (v := 1) C dX9_areAgainst_55 (by decide) ?_
          refine gx_icmp_ne (tgt := 84) C dX9_areAgainst_56 (by decide) (fun c_56 => ?_) (fun c_56 => ?_)
          · have hz2 : ¬ (pKind x1 = 1 ∧ pKind y1 = 1) := fun q => c_56 q.2
            refine gx_aload_n C dX9_areAgainst_84 rfl ?_
            refine gx_get C fd_X9_areAgainst_7 (hG := ho) (hv := by rfl) dX9_areAgainst_85 ?_
            refine gx_iload_n C dX9_areAgainst_88 rfl ?_
            refine gx_iconst (v := nI 1) C dX9_areAgainst_89 (by decide) ?_
            refine gx_iadd C dX9_areAgainst_90 ?_
            first | refine gx_top (nI_add _ _) ?_ | skip
            refine gx_ialdN C (hG := hs1) (hk := by omega) (hn := by omega) dX9_areAgainst_91 ?_
            rw [hp.2.1, pFirst_nI]
            refine gx_aload_n C dX9_areAgainst_92 rfl ?_
            refine gx_get C fd_X9_areAgainst_7 (hG := ho) (hv := by rfl) dX9_areAgainst_93 ?_
            refine gx_iload_n C dX9_areAgainst_96 rfl ?_
            refine gx_iconst (v := nI 1) C dX9_areAgainst_97 (by decide) ?_
            refine gx_iadd C dX9_areAgainst_98 ?_
            first | refine gx_top (nI_add _ _) ?_ | skip
            refine gx_ialdN C (hG := hs1) (hk := by omega) (hn := by omega) dX9_areAgainst_99 ?_
            rw [hq.2.1, pFirst_nI]
            refine gx_icmp_le (tgt := 114) C dX9_areAgainst_100 (by decide) (fun c_100 => ?_) (fun c_100 => ?_)
            · have u1 := (nI_leI (by omega) (by omega)).mp c_100
              refine gx_aload_n C dX9_areAgainst_114 rfl ?_
              refine gx_get C fd_X9_areAgainst_7 (hG := ho) (hv := by rfl) dX9_areAgainst_115 ?_
              refine gx_iload_n C dX9_areAgainst_118 rfl ?_
              refine gx_iconst (v := nI 1) C dX9_areAgainst_119 (by decide) ?_
              refine gx_iadd C dX9_areAgainst_120 ?_
              first | refine gx_top (nI_add _ _) ?_ | skip
              refine gx_ialdN C (hG := hs1) (hk := by omega) (hn := by omega) dX9_areAgainst_121 ?_
              rw [hq.2.1, pFirst_nI]
              refine gx_istore_n C dX9_areAgainst_122 (by decide) ?_
              refine gx_aload_n C dX9_areAgainst_123 rfl ?_
              refine gx_iload_n C dX9_areAgainst_124 rfl ?_
              refine gx_callV (ci := 8) (T := TX9) (N := 11) C (k9_behind l D A hs ho hs1 hp hp8) cb_X9_areAgainst__X9_behind gX9_areAgainst_X9_behind rfl (hG := ho) rfl rfl (Nat.le_of_ble_eq_true rfl) ⟨Nat.le_refl _, Nat.le_refl _⟩ dX9_areAgainst_125 (gx_ki fun r_125 G_125 h_125 => ?_)
              obtain ⟨rfl, rfl⟩ := h_125
              rw [pEnd_nI]
              refine gx_aload_n C dX9_areAgainst_128 rfl ?_
              refine gx_iload_n C dX9_areAgainst_129 rfl ?_
              refine gx_callV (ci := 8) (T := TX9) (N := 11) C (k9_behind l D A hs ho hs1 hq hq8) cb_X9_areAgainst__X9_behind gX9_areAgainst_X9_behind rfl (hG := ho) rfl rfl (Nat.le_of_ble_eq_true rfl) ⟨Nat.le_refl _, Nat.le_refl _⟩ dX9_areAgainst_130 (gx_ki fun r_130 G_130 h_130 => ?_)
              obtain ⟨rfl, rfl⟩ := h_130
              rw [pEnd_nI]
              refine gx_icmp_ge (tgt := 144) C dX9_areAgainst_133 (by decide) (fun c_133 => ?_) (fun c_133 => ?_)
              · have u2 := (nI_leI (by omega) (by omega)).mp c_133
                refine gx_aload_n C dX9_areAgainst_144 rfl ?_
                refine gx_iload_n C dX9_areAgainst_145 rfl ?_
                refine gx_callV (ci := 8) (T := TX9) (N := 11) C (k9_behind l D A hs ho hs1 hq hq8) cb_X9_areAgainst__X9_behind gX9_areAgainst_X9_behind rfl (hG := ho) rfl rfl (Nat.le_of_ble_eq_true rfl) ⟨Nat.le_refl _, Nat.le_refl _⟩ dX9_areAgainst_146 (gx_ki fun r_146 G_146 h_146 => ?_)
                obtain ⟨rfl, rfl⟩ := h_146
                rw [pEnd_nI]
                refine gx_istore C dX9_areAgainst_149 (by decide) ?_
                refine gx_iload_n C dX9_areAgainst_151 rfl ?_
                refine gx_iload C dX9_areAgainst_152 rfl ?_
                refine gx_icmp_lt (tgt := 175) C dX9_areAgainst_154 (by decide) (fun c_154 => ?_) (fun c_154 => ?_)
                · have u3 := (nI_ltI (by omega) (by omega)).mp c_154
                  have e : pOpp x1 y1 = 1 := by rw [pOpp_3 hz1 hz2, if_pos (by omega)]
                  refine gx_iconst (v := 1) C dX9_areAgainst_175 (by decide) ?_
                  refine gx_goto (tgt := 180) C dX9_areAgainst_176 (by decide) ?_
                  refine gx_zret (mc := 0) C rfl ?_ dX9_areAgainst_180
                  exact ⟨_, rfl, e.symm, rfl⟩
                · have u3 := fun q => c_154 ((nI_ltI (by omega) (by omega)).mpr q)
                  refine gx_aload_n C dX9_areAgainst_157 rfl ?_
                  refine gx_iload_n C dX9_areAgainst_158 rfl ?_
                  refine gx_iload_n C dX9_areAgainst_159 rfl ?_
                  refine gx_callV (ci := 8) (T := TX9) (N := 11) C (k9_isWithin l D A hs ho hs1 hp hq hp8 hq8) cb_X9_areAgainst__X9_isWithin gX9_areAgainst_X9_isWithin rfl (hG := ho) rfl rfl (Nat.le_of_ble_eq_true rfl) ⟨Nat.le_refl _, Nat.le_refl _⟩ dX9_areAgainst_160 (gx_ki fun r_160 G_160 h_160 => ?_)
                  obtain ⟨rfl, rfl⟩ := h_160
                  refine gx_if_ne (tgt := 175) C dX9_areAgainst_163 (by decide) (fun c_163 => ?_) (fun c_163 => ?_)
                  · have w1 : pKind x1 = 1 ∧ pF y1 < pF x1 ∧ pF x1 < pE y1 := by
                      by_cases q : pKind x1 = 1 ∧ pF y1 < pF x1 ∧ pF x1 < pE y1
                      · exact q
                      · exact absurd (if_neg q) c_163
                    have w2 := pE_1 w1.1
                    have e : pOpp x1 y1 = 1 := by rw [pOpp_3 hz1 hz2, if_pos (by omega)]
                    refine gx_iconst (v := 1) C dX9_areAgainst_175 (by decide) ?_
                    refine gx_goto (tgt := 180) C dX9_areAgainst_176 (by decide) ?_
                    refine gx_zret (mc := 0) C rfl ?_ dX9_areAgainst_180
                    exact ⟨_, rfl, e.symm, rfl⟩
                  · have w1 : ¬ (pKind x1 = 1 ∧ pF y1 < pF x1 ∧ pF x1 < pE y1) := fun q => by
                      rw [if_pos q] at c_163; exact absurd c_163 (by decide)
                    refine gx_aload_n C dX9_areAgainst_166 rfl ?_
                    refine gx_iload_n C dX9_areAgainst_167 rfl ?_
                    refine gx_iload_n C dX9_areAgainst_168 rfl ?_
                    refine gx_callV (ci := 8) (T := TX9) (N := 11) C (k9_isWithin l D A hs ho hs1 hq hp hq8 hp8) cb_X9_areAgainst__X9_isWithin gX9_areAgainst_X9_isWithin rfl (hG := ho) rfl rfl (Nat.le_of_ble_eq_true rfl) ⟨Nat.le_refl _, Nat.le_refl _⟩ dX9_areAgainst_169 (gx_ki fun r_169 G_169 h_169 => ?_)
                    obtain ⟨rfl, rfl⟩ := h_169
                    refine gx_if_eq (tgt := 179) C dX9_areAgainst_172 (by decide) (fun c_172 => ?_) (fun c_172 => ?_)
                    · have w2 : ¬ (pKind y1 = 1 ∧ pF x1 < pF y1 ∧ pF y1 < pE x1) := fun q => by
                        rw [if_pos q] at c_172; exact absurd c_172 (by decide)
                      have e : pOpp x1 y1 = 0 := by
                        rw [pOpp_3 hz1 hz2, if_neg]
                        intro q
                        by_cases kx : pKind x1 = 1
                        · have w3 := pE_1 kx
                          exact w1 ⟨kx, by omega, by omega⟩
                        · by_cases ky : pKind y1 = 1
                          · have w3 := pE_1 ky
                            exact w2 ⟨ky, by omega, by omega⟩
                          · have w3 := pE_g hx1 kx
                            have w4 := pE_g hy1 ky
                            exact u3 (by omega)
                      refine gx_iconst (v := 0) C dX9_areAgainst_179 (by decide) ?_
                      refine gx_zret (mc := 0) C rfl ?_ dX9_areAgainst_180
                      exact ⟨_, rfl, e.symm, rfl⟩
                    · have w2 : pKind y1 = 1 ∧ pF x1 < pF y1 ∧ pF y1 < pE x1 := by
                        by_cases q : pKind y1 = 1 ∧ pF x1 < pF y1 ∧ pF y1 < pE x1
                        · exact q
                        · exact absurd (if_neg q) c_172
                      have w3 := pE_1 w2.1
                      have e : pOpp x1 y1 = 1 := by rw [pOpp_3 hz1 hz2, if_pos (by omega)]
                      refine gx_iconst (v := 1) C dX9_areAgainst_175 (by decide) ?_
                      refine gx_goto (tgt := 180) C dX9_areAgainst_176 (by decide) ?_
                      refine gx_zret (mc := 0) C rfl ?_ dX9_areAgainst_180
                      exact ⟨_, rfl, e.symm, rfl⟩
              · have u2 : pE x1 < pE y1 := by
                  rcases Nat.lt_or_ge (pE x1) (pE y1) with q | q
                  · exact q
                  · exact absurd (nI_le q (by omega)) c_133
                refine gx_aload_n C dX9_areAgainst_136 rfl ?_
                refine gx_iload_n C dX9_areAgainst_137 rfl ?_
                refine gx_callV (ci := 8) (T := TX9) (N := 11) C (k9_behind l D A hs ho hs1 hp hp8) cb_X9_areAgainst__X9_behind gX9_areAgainst_X9_behind rfl (hG := ho) rfl rfl (Nat.le_of_ble_eq_true rfl) ⟨Nat.le_refl _, Nat.le_refl _⟩ dX9_areAgainst_138 (gx_ki fun r_138 G_138 h_138 => ?_)
                obtain ⟨rfl, rfl⟩ := h_138
                rw [pEnd_nI]
                refine gx_goto (tgt := 149) C dX9_areAgainst_141 (by decide) ?_
                refine gx_istore C dX9_areAgainst_149 (by decide) ?_
                refine gx_iload_n C dX9_areAgainst_151 rfl ?_
                refine gx_iload C dX9_areAgainst_152 rfl ?_
                refine gx_icmp_lt (tgt := 175) C dX9_areAgainst_154 (by decide) (fun c_154 => ?_) (fun c_154 => ?_)
                · have u3 := (nI_ltI (by omega) (by omega)).mp c_154
                  have e : pOpp x1 y1 = 1 := by rw [pOpp_3 hz1 hz2, if_pos (by omega)]
                  refine gx_iconst (v := 1) C dX9_areAgainst_175 (by decide) ?_
                  refine gx_goto (tgt := 180) C dX9_areAgainst_176 (by decide) ?_
                  refine gx_zret (mc := 0) C rfl ?_ dX9_areAgainst_180
                  exact ⟨_, rfl, e.symm, rfl⟩
                · have u3 := fun q => c_154 ((nI_ltI (by omega) (by omega)).mpr q)
                  refine gx_aload_n C dX9_areAgainst_157 rfl ?_
                  refine gx_iload_n C dX9_areAgainst_158 rfl ?_
                  refine gx_iload_n C dX9_areAgainst_159 rfl ?_
                  refine gx_callV (ci := 8) (T := TX9) (N := 11) C (k9_isWithin l D A hs ho hs1 hp hq hp8 hq8) cb_X9_areAgainst__X9_isWithin gX9_areAgainst_X9_isWithin rfl (hG := ho) rfl rfl (Nat.le_of_ble_eq_true rfl) ⟨Nat.le_refl _, Nat.le_refl _⟩ dX9_areAgainst_160 (gx_ki fun r_160 G_160 h_160 => ?_)
                  obtain ⟨rfl, rfl⟩ := h_160
                  refine gx_if_ne (tgt := 175) C dX9_areAgainst_163 (by decide) (fun c_163 => ?_) (fun c_163 => ?_)
                  · have w1 : pKind x1 = 1 ∧ pF y1 < pF x1 ∧ pF x1 < pE y1 := by
                      by_cases q : pKind x1 = 1 ∧ pF y1 < pF x1 ∧ pF x1 < pE y1
                      · exact q
                      · exact absurd (if_neg q) c_163
                    have w2 := pE_1 w1.1
                    have e : pOpp x1 y1 = 1 := by rw [pOpp_3 hz1 hz2, if_pos (by omega)]
                    refine gx_iconst (v := 1) C dX9_areAgainst_175 (by decide) ?_
                    refine gx_goto (tgt := 180) C dX9_areAgainst_176 (by decide) ?_
                    refine gx_zret (mc := 0) C rfl ?_ dX9_areAgainst_180
                    exact ⟨_, rfl, e.symm, rfl⟩
                  · have w1 : ¬ (pKind x1 = 1 ∧ pF y1 < pF x1 ∧ pF x1 < pE y1) := fun q => by
                      rw [if_pos q] at c_163; exact absurd c_163 (by decide)
                    refine gx_aload_n C dX9_areAgainst_166 rfl ?_
                    refine gx_iload_n C dX9_areAgainst_167 rfl ?_
                    refine gx_iload_n C dX9_areAgainst_168 rfl ?_
                    refine gx_callV (ci := 8) (T := TX9) (N := 11) C (k9_isWithin l D A hs ho hs1 hq hp hq8 hp8) cb_X9_areAgainst__X9_isWithin gX9_areAgainst_X9_isWithin rfl (hG := ho) rfl rfl (Nat.le_of_ble_eq_true rfl) ⟨Nat.le_refl _, Nat.le_refl _⟩ dX9_areAgainst_169 (gx_ki fun r_169 G_169 h_169 => ?_)
                    obtain ⟨rfl, rfl⟩ := h_169
                    refine gx_if_eq (tgt := 179) C dX9_areAgainst_172 (by decide) (fun c_172 => ?_) (fun c_172 => ?_)
                    · have w2 : ¬ (pKind y1 = 1 ∧ pF x1 < pF y1 ∧ pF y1 < pE x1) := fun q => by
                        rw [if_pos q] at c_172; exact absurd c_172 (by decide)
                      have e : pOpp x1 y1 = 0 := by
                        rw [pOpp_3 hz1 hz2, if_neg]
                        intro q
                        by_cases kx : pKind x1 = 1
                        · have w3 := pE_1 kx
                          exact w1 ⟨kx, by omega, by omega⟩
                        · by_cases ky : pKind y1 = 1
                          · have w3 := pE_1 ky
                            exact w2 ⟨ky, by omega, by omega⟩
                          · have w3 := pE_g hx1 kx
                            have w4 := pE_g hy1 ky
                            exact u3 (by omega)
                      refine gx_iconst (v := 0) C dX9_areAgainst_179 (by decide) ?_
                      refine gx_zret (mc := 0) C rfl ?_ dX9_areAgainst_180
                      exact ⟨_, rfl, e.symm, rfl⟩
                    · have w2 : pKind y1 = 1 ∧ pF x1 < pF y1 ∧ pF y1 < pE x1 := by
                        by_cases q : pKind y1 = 1 ∧ pF x1 < pF y1 ∧ pF y1 < pE x1
                        · exact q
                        · exact absurd (if_neg q) c_172
                      have w3 := pE_1 w2.1
                      have e : pOpp x1 y1 = 1 := by rw [pOpp_3 hz1 hz2, if_pos (by omega)]
                      refine gx_iconst (v := 1) C dX9_areAgainst_175 (by decide) ?_
                      refine gx_goto (tgt := 180) C dX9_areAgainst_176 (by decide) ?_
                      refine gx_zret (mc := 0) C rfl ?_ dX9_areAgainst_180
                      exact ⟨_, rfl, e.symm, rfl⟩
            · have u1 : pF y1 < pF x1 := by
                rcases Nat.lt_or_ge (pF y1) (pF x1) with q | q
                · exact q
                · exact absurd (nI_le q (by omega)) c_100
              refine gx_aload_n C dX9_areAgainst_103 rfl ?_
              refine gx_get C fd_X9_areAgainst_7 (hG := ho) (hv := by rfl) dX9_areAgainst_104 ?_
              refine gx_iload_n C dX9_areAgainst_107 rfl ?_
              refine gx_iconst (v := nI 1) C dX9_areAgainst_108 (by decide) ?_
              refine gx_iadd C dX9_areAgainst_109 ?_
              first | refine gx_top (nI_add _ _) ?_ | skip
              refine gx_ialdN C (hG := hs1) (hk := by omega) (hn := by omega) dX9_areAgainst_110 ?_
              rw [hp.2.1, pFirst_nI]
              refine gx_goto (tgt := 122) C dX9_areAgainst_111 (by decide) ?_
              refine gx_istore_n C dX9_areAgainst_122 (by decide) ?_
              refine gx_aload_n C dX9_areAgainst_123 rfl ?_
              refine gx_iload_n C dX9_areAgainst_124 rfl ?_
              refine gx_callV (ci := 8) (T := TX9) (N := 11) C (k9_behind l D A hs ho hs1 hp hp8) cb_X9_areAgainst__X9_behind gX9_areAgainst_X9_behind rfl (hG := ho) rfl rfl (Nat.le_of_ble_eq_true rfl) ⟨Nat.le_refl _, Nat.le_refl _⟩ dX9_areAgainst_125 (gx_ki fun r_125 G_125 h_125 => ?_)
              obtain ⟨rfl, rfl⟩ := h_125
              rw [pEnd_nI]
              refine gx_aload_n C dX9_areAgainst_128 rfl ?_
              refine gx_iload_n C dX9_areAgainst_129 rfl ?_
              refine gx_callV (ci := 8) (T := TX9) (N := 11) C (k9_behind l D A hs ho hs1 hq hq8) cb_X9_areAgainst__X9_behind gX9_areAgainst_X9_behind rfl (hG := ho) rfl rfl (Nat.le_of_ble_eq_true rfl) ⟨Nat.le_refl _, Nat.le_refl _⟩ dX9_areAgainst_130 (gx_ki fun r_130 G_130 h_130 => ?_)
              obtain ⟨rfl, rfl⟩ := h_130
              rw [pEnd_nI]
              refine gx_icmp_ge (tgt := 144) C dX9_areAgainst_133 (by decide) (fun c_133 => ?_) (fun c_133 => ?_)
              · have u2 := (nI_leI (by omega) (by omega)).mp c_133
                refine gx_aload_n C dX9_areAgainst_144 rfl ?_
                refine gx_iload_n C dX9_areAgainst_145 rfl ?_
                refine gx_callV (ci := 8) (T := TX9) (N := 11) C (k9_behind l D A hs ho hs1 hq hq8) cb_X9_areAgainst__X9_behind gX9_areAgainst_X9_behind rfl (hG := ho) rfl rfl (Nat.le_of_ble_eq_true rfl) ⟨Nat.le_refl _, Nat.le_refl _⟩ dX9_areAgainst_146 (gx_ki fun r_146 G_146 h_146 => ?_)
                obtain ⟨rfl, rfl⟩ := h_146
                rw [pEnd_nI]
                refine gx_istore C dX9_areAgainst_149 (by decide) ?_
                refine gx_iload_n C dX9_areAgainst_151 rfl ?_
                refine gx_iload C dX9_areAgainst_152 rfl ?_
                refine gx_icmp_lt (tgt := 175) C dX9_areAgainst_154 (by decide) (fun c_154 => ?_) (fun c_154 => ?_)
                · have u3 := (nI_ltI (by omega) (by omega)).mp c_154
                  have e : pOpp x1 y1 = 1 := by rw [pOpp_3 hz1 hz2, if_pos (by omega)]
                  refine gx_iconst (v := 1) C dX9_areAgainst_175 (by decide) ?_
                  refine gx_goto (tgt := 180) C dX9_areAgainst_176 (by decide) ?_
                  refine gx_zret (mc := 0) C rfl ?_ dX9_areAgainst_180
                  exact ⟨_, rfl, e.symm, rfl⟩
                · have u3 := fun q => c_154 ((nI_ltI (by omega) (by omega)).mpr q)
                  refine gx_aload_n C dX9_areAgainst_157 rfl ?_
                  refine gx_iload_n C dX9_areAgainst_158 rfl ?_
                  refine gx_iload_n C dX9_areAgainst_159 rfl ?_
                  refine gx_callV (ci := 8) (T := TX9) (N := 11) C (k9_isWithin l D A hs ho hs1 hp hq hp8 hq8) cb_X9_areAgainst__X9_isWithin gX9_areAgainst_X9_isWithin rfl (hG := ho) rfl rfl (Nat.le_of_ble_eq_true rfl) ⟨Nat.le_refl _, Nat.le_refl _⟩ dX9_areAgainst_160 (gx_ki fun r_160 G_160 h_160 => ?_)
                  obtain ⟨rfl, rfl⟩ := h_160
                  refine gx_if_ne (tgt := 175) C dX9_areAgainst_163 (by decide) (fun c_163 => ?_) (fun c_163 => ?_)
                  · have w1 : pKind x1 = 1 ∧ pF y1 < pF x1 ∧ pF x1 < pE y1 := by
                      by_cases q : pKind x1 = 1 ∧ pF y1 < pF x1 ∧ pF x1 < pE y1
                      · exact q
                      · exact absurd (if_neg q) c_163
                    have w2 := pE_1 w1.1
                    have e : pOpp x1 y1 = 1 := by rw [pOpp_3 hz1 hz2, if_pos (by omega)]
                    refine gx_iconst (v := 1) C dX9_areAgainst_175 (by decide) ?_
                    refine gx_goto (tgt := 180) C dX9_areAgainst_176 (by decide) ?_
                    refine gx_zret (mc := 0) C rfl ?_ dX9_areAgainst_180
                    exact ⟨_, rfl, e.symm, rfl⟩
                  · have w1 : ¬ (pKind x1 = 1 ∧ pF y1 < pF x1 ∧ pF x1 < pE y1) := fun q => by
                      rw [if_pos q] at c_163; exact absurd c_163 (by decide)
                    refine gx_aload_n C dX9_areAgainst_166 rfl ?_
                    refine gx_iload_n C dX9_areAgainst_167 rfl ?_
                    refine gx_iload_n C dX9_areAgainst_168 rfl ?_
                    refine gx_callV (ci := 8) (T := TX9) (N := 11) C (k9_isWithin l D A hs ho hs1 hq hp hq8 hp8) cb_X9_areAgainst__X9_isWithin gX9_areAgainst_X9_isWithin rfl (hG := ho) rfl rfl (Nat.le_of_ble_eq_true rfl) ⟨Nat.le_refl _, Nat.le_refl _⟩ dX9_areAgainst_169 (gx_ki fun r_169 G_169 h_169 => ?_)
                    obtain ⟨rfl, rfl⟩ := h_169
                    refine gx_if_eq (tgt := 179) C dX9_areAgainst_172 (by decide) (fun c_172 => ?_) (fun c_172 => ?_)
                    · have w2 : ¬ (pKind y1 = 1 ∧ pF x1 < pF y1 ∧ pF y1 < pE x1) := fun q => by
                        rw [if_pos q] at c_172; exact absurd c_172 (by decide)
                      have e : pOpp x1 y1 = 0 := by
                        rw [pOpp_3 hz1 hz2, if_neg]
                        intro q
                        by_cases kx : pKind x1 = 1
                        · have w3 := pE_1 kx
                          exact w1 ⟨kx, by omega, by omega⟩
                        · by_cases ky : pKind y1 = 1
                          · have w3 := pE_1 ky
                            exact w2 ⟨ky, by omega, by omega⟩
                          · have w3 := pE_g hx1 kx
                            have w4 := pE_g hy1 ky
                            exact u3 (by omega)
                      refine gx_iconst (v := 0) C dX9_areAgainst_179 (by decide) ?_
                      refine gx_zret (mc := 0) C rfl ?_ dX9_areAgainst_180
                      exact ⟨_, rfl, e.symm, rfl⟩
                    · have w2 : pKind y1 = 1 ∧ pF x1 < pF y1 ∧ pF y1 < pE x1 := by
                        by_cases q : pKind y1 = 1 ∧ pF x1 < pF y1 ∧ pF y1 < pE x1
                        · exact q
                        · exact absurd (if_neg q) c_172
                      have w3 := pE_1 w2.1
                      have e : pOpp x1 y1 = 1 := by rw [pOpp_3 hz1 hz2, if_pos (by omega)]
                      refine gx_iconst (v := 1) C dX9_areAgainst_175 (by decide) ?_
                      refine gx_goto (tgt := 180) C dX9_areAgainst_176 (by decide) ?_
                      refine gx_zret (mc := 0) C rfl ?_ dX9_areAgainst_180
                      exact ⟨_, rfl, e.symm, rfl⟩
              · have u2 : pE x1 < pE y1 := by
                  rcases Nat.lt_or_ge (pE x1) (pE y1) with q | q
                  · exact q
                  · exact absurd (nI_le q (by omega)) c_133
                refine gx_aload_n C dX9_areAgainst_136 rfl ?_
                refine gx_iload_n C dX9_areAgainst_137 rfl ?_
                refine gx_callV (ci := 8) (T := TX9) (N := 11) C (k9_behind l D A hs ho hs1 hp hp8) cb_X9_areAgainst__X9_behind gX9_areAgainst_X9_behind rfl (hG := ho) rfl rfl (Nat.le_of_ble_eq_true rfl) ⟨Nat.le_refl _, Nat.le_refl _⟩ dX9_areAgainst_138 (gx_ki fun r_138 G_138 h_138 => ?_)
                obtain ⟨rfl, rfl⟩ := h_138
                rw [pEnd_nI]
                refine gx_goto (tgt := 149) C dX9_areAgainst_141 (by decide) ?_
                refine gx_istore C dX9_areAgainst_149 (by decide) ?_
                refine gx_iload_n C dX9_areAgainst_151 rfl ?_
                refine gx_iload C dX9_areAgainst_152 rfl ?_
                refine gx_icmp_lt (tgt := 175) C dX9_areAgainst_154 (by decide) (fun c_154 => ?_) (fun c_154 => ?_)
                · have u3 := (nI_ltI (by omega) (by omega)).mp c_154
                  have e : pOpp x1 y1 = 1 := by rw [pOpp_3 hz1 hz2, if_pos (by omega)]
                  refine gx_iconst (v := 1) C dX9_areAgainst_175 (by decide) ?_
                  refine gx_goto (tgt := 180) C dX9_areAgainst_176 (by decide) ?_
                  refine gx_zret (mc := 0) C rfl ?_ dX9_areAgainst_180
                  exact ⟨_, rfl, e.symm, rfl⟩
                · have u3 := fun q => c_154 ((nI_ltI (by omega) (by omega)).mpr q)
                  refine gx_aload_n C dX9_areAgainst_157 rfl ?_
                  refine gx_iload_n C dX9_areAgainst_158 rfl ?_
                  refine gx_iload_n C dX9_areAgainst_159 rfl ?_
                  refine gx_callV (ci := 8) (T := TX9) (N := 11) C (k9_isWithin l D A hs ho hs1 hp hq hp8 hq8) cb_X9_areAgainst__X9_isWithin gX9_areAgainst_X9_isWithin rfl (hG := ho) rfl rfl (Nat.le_of_ble_eq_true rfl) ⟨Nat.le_refl _, Nat.le_refl _⟩ dX9_areAgainst_160 (gx_ki fun r_160 G_160 h_160 => ?_)
                  obtain ⟨rfl, rfl⟩ := h_160
                  refine gx_if_ne (tgt := 175) C dX9_areAgainst_163 (by decide) (fun c_163 => ?_) (fun c_163 => ?_)
                  · have w1 : pKind x1 = 1 ∧ pF y1 < pF x1 ∧ pF x1 < pE y1 := by
                      by_cases q : pKind x1 = 1 ∧ pF y1 < pF x1 ∧ pF x1 < pE y1
                      · exact q
                      · exact absurd (if_neg q) c_163
                    have w2 := pE_1 w1.1
                    have e : pOpp x1 y1 = 1 := by rw [pOpp_3 hz1 hz2, if_pos (by omega)]
                    refine gx_iconst (v := 1) C dX9_areAgainst_175 (by decide) ?_
                    refine gx_goto (tgt := 180) C dX9_areAgainst_176 (by decide) ?_
                    refine gx_zret (mc := 0) C rfl ?_ dX9_areAgainst_180
                    exact ⟨_, rfl, e.symm, rfl⟩
                  · have w1 : ¬ (pKind x1 = 1 ∧ pF y1 < pF x1 ∧ pF x1 < pE y1) := fun q => by
                      rw [if_pos q] at c_163; exact absurd c_163 (by decide)
                    refine gx_aload_n C dX9_areAgainst_166 rfl ?_
                    refine gx_iload_n C dX9_areAgainst_167 rfl ?_
                    refine gx_iload_n C dX9_areAgainst_168 rfl ?_
                    refine gx_callV (ci := 8) (T := TX9) (N := 11) C (k9_isWithin l D A hs ho hs1 hq hp hq8 hp8) cb_X9_areAgainst__X9_isWithin gX9_areAgainst_X9_isWithin rfl (hG := ho) rfl rfl (Nat.le_of_ble_eq_true rfl) ⟨Nat.le_refl _, Nat.le_refl _⟩ dX9_areAgainst_169 (gx_ki fun r_169 G_169 h_169 => ?_)
                    obtain ⟨rfl, rfl⟩ := h_169
                    refine gx_if_eq (tgt := 179) C dX9_areAgainst_172 (by decide) (fun c_172 => ?_) (fun c_172 => ?_)
                    · have w2 : ¬ (pKind y1 = 1 ∧ pF x1 < pF y1 ∧ pF y1 < pE x1) := fun q => by
                        rw [if_pos q] at c_172; exact absurd c_172 (by decide)
                      have e : pOpp x1 y1 = 0 := by
                        rw [pOpp_3 hz1 hz2, if_neg]
                        intro q
                        by_cases kx : pKind x1 = 1
                        · have w3 := pE_1 kx
                          exact w1 ⟨kx, by omega, by omega⟩
                        · by_cases ky : pKind y1 = 1
                          · have w3 := pE_1 ky
                            exact w2 ⟨ky, by omega, by omega⟩
                          · have w3 := pE_g hx1 kx
                            have w4 := pE_g hy1 ky
                            exact u3 (by omega)
                      refine gx_iconst (v := 0) C dX9_areAgainst_179 (by decide) ?_
                      refine gx_zret (mc := 0) C rfl ?_ dX9_areAgainst_180
                      exact ⟨_, rfl, e.symm, rfl⟩
                    · have w2 : pKind y1 = 1 ∧ pF x1 < pF y1 ∧ pF y1 < pE x1 := by
                        by_cases q : pKind y1 = 1 ∧ pF x1 < pF y1 ∧ pF y1 < pE x1
                        · exact q
                        · exact absurd (if_neg q) c_172
                      have w3 := pE_1 w2.1
                      have e : pOpp x1 y1 = 1 := by rw [pOpp_3 hz1 hz2, if_pos (by omega)]
                      refine gx_iconst (v := 1) C dX9_areAgainst_175 (by decide) ?_
                      refine gx_goto (tgt := 180) C dX9_areAgainst_176 (by decide) ?_
                      refine gx_zret (mc := 0) C rfl ?_ dX9_areAgainst_180
                      exact ⟨_, rfl, e.symm, rfl⟩
          · refine gx_aload_n C dX9_areAgainst_59 rfl ?_
            refine gx_get C fd_X9_areAgainst_7 (hG := ho) (hv := by rfl) dX9_areAgainst_60 ?_
            refine gx_iload_n C dX9_areAgainst_63 rfl ?_
            refine gx_iconst (v := nI 1) C dX9_areAgainst_64 (by decide) ?_
            refine gx_iadd C dX9_areAgainst_65 ?_
            first | refine gx_top (nI_add _ _) ?_ | skip
            refine gx_ialdN C (hG := hs1) (hk := by omega) (hn := by omega) dX9_areAgainst_66 ?_
            rw [hp.2.1, pFirst_nI]
            refine gx_aload_n C dX9_areAgainst_67 rfl ?_
            refine gx_get C fd_X9_areAgainst_7 (hG := ho) (hv := by rfl) dX9_areAgainst_68 ?_
            refine gx_iload_n C dX9_areAgainst_71 rfl ?_
            refine gx_iconst (v := nI 1) C dX9_areAgainst_72 (by decide) ?_
            refine gx_iadd C dX9_areAgainst_73 ?_
            first | refine gx_top (nI_add _ _) ?_ | skip
            refine gx_ialdN C (hG := hs1) (hk := by omega) (hn := by omega) dX9_areAgainst_74 ?_
            rw [hq.2.1, pFirst_nI]
            refine gx_icmp_ne (tgt := 82) C dX9_areAgainst_75 (by decide) (fun c_75 => ?_) (fun c_75 => ?_)
            · have e : pOpp x1 y1 = 0 := by rw [pOpp, if_neg hz1, if_pos ⟨c_44, c_56⟩, pFirst_nI, pFirst_nI, if_neg c_75]
              refine gx_iconst (v := 0) C dX9_areAgainst_82 (by decide) ?_
              refine gx_zret (mc := 0) C rfl ?_ dX9_areAgainst_83
              exact ⟨_, rfl, e.symm, rfl⟩
            · have e : pOpp x1 y1 = 1 := by rw [pOpp, if_neg hz1, if_pos ⟨c_44, c_56⟩, pFirst_nI, pFirst_nI, if_pos c_75]
              refine gx_iconst (v := 1) C dX9_areAgainst_78 (by decide) ?_
              refine gx_goto (tgt := 83) C dX9_areAgainst_79 (by decide) ?_
              refine gx_zret (mc := 0) C rfl ?_ dX9_areAgainst_83
              exact ⟨_, rfl, e.symm, rfl⟩
      · have q : x1 = y1 := by
          by_cases q : x1 = y1
          · exact q
          · exact absurd (if_neg q) c_30
        have e : pOpp x1 y1 = 0 := if_pos (Or.inl q)
        refine gx_iconst (v := 0) C dX9_areAgainst_33 (by decide) ?_
        refine gx_zret (mc := 0) C rfl ?_ dX9_areAgainst_34
        exact ⟨_, rfl, e.symm, rfl⟩
set_option maxHeartbeats 600000 in
set_option maxRecDepth 100000 in
/-- X9_likeOf -/
theorem k9_likeOf (l : Launch) (D : gD) (A : Nat → Prop) (hs : Nat) {G : gH} {a : Nat} {z : MI} {st : Nat → Int32} (ho : gMob G a z) (hs1 : gMst D G (a + 1) 855 st) {v : SV} (hR : sR st v) {p1 : Nat} {x1 : Int32} (hp : mkR st p1 x1) (hp8 : p1 + 3 < 855) : gM l yX9_likeOf wsX9_likeOf (gR 1) D A hs 0 0 [.ref a, .int (nI p1)] G (gPi fun x G' => x = (if x1 ∈ v.2.2.2.1.1 then lidx v.2.2.2.1.1 x1 else -4) ∧ G' = G) := by
  refine gM_intro (by decide) rfl rfl (Nat.le_of_ble_eq_true rfl) ?_
  intro p e s m args below meth c C
  have r3 := hR.2.2.2.1.1
  have b3 := hR.2.2.2.1.2.1
  have hlen := hR.2.2.2.1.2.2.1
  have hloop : ∀ (n j : Nat) , v.2.2.2.1.1.length < j + n → j ≤ v.2.2.2.1.1.length → (∀ b, b < j → ¬ v.2.2.2.1.1.getD b 0 = x1) → gX p l e (gR 1) s m args below meth c D A 3 hs 0 0 (MQ below (gQ D A hs 0 (gPi fun x G' => x = (if x1 ∈ v.2.2.2.1.1 then lidx v.2.2.2.1.1 x1 else -4) ∧ G' = G)) args s 0 0 A) G [some (.ref a), some (.int (nI p1)), some (.int (nI j))] 2 [] := by
    intro n
    induction n with
    | zero => intro j hm hj0 hI; exact absurd hm (by omega)
    | succ n ih =>
      intro j hm hj0 hI
      refine gx_iload_n C dX9_likeOf_2 rfl ?_
      refine gx_aload_n C dX9_likeOf_3 rfl ?_
      refine gx_get C fd_X9_likeOf_7 (hG := ho) (hv := by rfl) dX9_likeOf_4 ?_
      refine gx_iconst (v := nI 3) C dX9_likeOf_7 (by decide) ?_
      refine gx_ialdN C (hG := hs1) (hk := by omega) (hn := by omega) dX9_likeOf_8 ?_
      rw [r3]
      refine gx_icmp_ge (tgt := 32) C dX9_likeOf_9 (by decide) (fun c_9 => ?_) (fun c_9 => ?_)
      · have hj : ¬ j < v.2.2.2.1.1.length := fun q => nI_ge q (by omega) c_9
        refine gx_bipush (v := (-4)) C dX9_likeOf_32 (by decide) ?_
        refine gx_zret (mc := 0) C rfl ?_ dX9_likeOf_34
        have hm9 : ¬ x1 ∈ v.2.2.2.1.1 := fun hm => by
          obtain ⟨i, hi, he⟩ := List.getElem_of_mem hm
          exact hI i (by omega) (by rw [gD_in hi]; exact he)
        exact ⟨_, rfl, by rw [if_neg hm9], rfl⟩
      · have hj : j < v.2.2.2.1.1.length := by
          rcases Nat.lt_or_ge (j) (v.2.2.2.1.1.length) with q | q
          · exact q
          · exact absurd (nI_le q (by omega)) c_9
        have lj := hR.2.2.2.1.2.2.2.2.2.2 j hj
        refine gx_aload_n C dX9_likeOf_12 rfl ?_
        refine gx_iload_n C dX9_likeOf_13 rfl ?_
        refine gx_iload_n C dX9_likeOf_14 rfl ?_
        refine gx_callS C (k9_listed l D A hs j) cb_X9_likeOf__X9_listed gX9_likeOf_X9_listed rfl rfl (Nat.le_of_ble_eq_true rfl) ⟨Nat.le_refl _, Nat.le_refl _⟩ dX9_likeOf_15 (gx_ki fun r_15 G_15 h_15 => ?_)
        obtain ⟨rfl, rfl⟩ := h_15
        refine gx_callV (ci := 8) (T := TX9) (N := 11) C (k9_areLike l D A hs ho hs1 hp lj.1 hp8 (by omega)) cb_X9_likeOf__X9_areLike gX9_likeOf_X9_areLike rfl (hG := ho) rfl rfl (Nat.le_of_ble_eq_true rfl) ⟨Nat.le_refl _, Nat.le_refl _⟩ dX9_likeOf_18 (gx_ki fun r_18 G_18 h_18 => ?_)
        obtain ⟨rfl, rfl⟩ := h_18
        refine gx_if_eq (tgt := 26) C dX9_likeOf_21 (by decide) (fun c_21 => ?_) (fun c_21 => ?_)
        · have q : ¬ x1 = v.2.2.2.1.1.getD j 0 := fun q => by
            rw [if_pos q] at c_21; exact absurd c_21 (by decide)
          first | refine gx_iincN C dX9_likeOf_26 rfl (by decide) ?_ | refine gx_iinc1 C dX9_likeOf_26 rfl (by decide) ?_
          refine gx_goto (tgt := 2) C dX9_likeOf_29 (by decide) ?_
          exact ih (j + 1) (by omega) (by omega) (fun b hb => by
            by_cases y : b = j
            · subst y; exact fun y => q y.symm
            · exact hI b (by omega))
        · have q : x1 = v.2.2.2.1.1.getD j 0 := by
            by_cases q : x1 = v.2.2.2.1.1.getD j 0
            · exact q
            · exact absurd (if_neg q) c_21
          refine gx_iload_n C dX9_likeOf_24 rfl ?_
          refine gx_zret (mc := 0) C rfl ?_ dX9_likeOf_25
          have hm9 : x1 ∈ v.2.2.2.1.1 := by rw [q, gD_in hj]; exact List.getElem_mem hj
          exact ⟨_, rfl, by rw [if_pos hm9]; exact gz_idx hj q.symm hI, rfl⟩
  refine gx_iconst (v := 0) C dX9_likeOf_0 (by decide) ?_
  refine gx_istore_n C dX9_likeOf_1 (by decide) ?_
  exact hloop (v.2.2.2.1.1.length + 1) 0 (by omega) (by omega) (fun b hb => absurd hb (by omega))
set_option maxHeartbeats 600000 in
set_option maxRecDepth 100000 in
/-- X9_isBarred -/
theorem k9_isBarred (l : Launch) (D : gD) (A : Nat → Prop) (hs : Nat) {G : gH} {a : Nat} {z : MI} {st : Nat → Int32} (ho : gMob G a z) (hs1 : gMst D G (a + 1) 855 st) {v : SV} (hR : sR st v) {p1 : Nat} {x1 : Int32} (hp : mkR st p1 x1) (hp8 : p1 + 3 < 855) {n1 : Nat} (hx1 : iOk x1 n1) : gM l yX9_isBarred wsX9_isBarred (gR 3) D A hs 0 0 [.ref a, .int (nI p1)] G (gPi fun x G' => x = (if pMeets v.2.2.2.1.1 v.2.2.2.1.2.1 x1 = true then 1 else 0) ∧ G' = G) := by
  refine gM_intro (by decide) rfl rfl (Nat.le_of_ble_eq_true rfl) ?_
  intro p e s m args below meth c C
  have r3 := hR.2.2.2.1.1
  have b3 := hR.2.2.2.1.2.1
  have hlen := hR.2.2.2.1.2.2.1
  have hloop : ∀ (n j : Nat) , v.2.2.2.1.1.length < j + n → j ≤ v.2.2.2.1.1.length → gX p l e (gR 3) s m args below meth c D A 4 hs 0 0 (MQ below (gQ D A hs 0 (gPi fun x G' => x = (if pMeets v.2.2.2.1.1 v.2.2.2.1.2.1 x1 = true then 1 else 0) ∧ G' = G)) args s 0 0 A) G [some (.ref a), some (.int (nI p1)), some (.int (if (List.range j).any (pHit v.2.2.2.1.1 v.2.2.2.1.2.1 x1) = true then 1 else 0)), some (.int (nI j))] 4 [] := by
    intro n
    induction n with
    | zero => intro j hm hj0; exact absurd hm (by omega)
    | succ n ih =>
      intro j hm hj0
      refine gx_iload_n C dX9_isBarred_4 rfl ?_
      refine gx_aload_n C dX9_isBarred_5 rfl ?_
      refine gx_get C fd_X9_isBarred_7 (hG := ho) (hv := by rfl) dX9_isBarred_6 ?_
      refine gx_iconst (v := nI 3) C dX9_isBarred_9 (by decide) ?_
      refine gx_ialdN C (hG := hs1) (hk := by omega) (hn := by omega) dX9_isBarred_10 ?_
      rw [r3]
      refine gx_icmp_ge (tgt := 57) C dX9_isBarred_11 (by decide) (fun c_11 => ?_) (fun c_11 => ?_)
      · have hj : ¬ j < v.2.2.2.1.1.length := fun q => nI_ge q (by omega) c_11
        refine gx_iload_n C dX9_isBarred_57 rfl ?_
        refine gx_zret (mc := 0) C (gz_b (by split <;> simp)) ?_ dX9_isBarred_58
        have e : j = v.2.2.2.1.1.length := by omega
        subst e
        exact ⟨_, rfl, rfl, rfl⟩
      · have hj : j < v.2.2.2.1.1.length := by
          rcases Nat.lt_or_ge (j) (v.2.2.2.1.1.length) with q | q
          · exact q
          · exact absurd (nI_le q (by omega)) c_11
        have lj := hR.2.2.2.1.2.2.2.2.2.2 j hj
        refine gx_iload_n C dX9_isBarred_14 rfl ?_
        refine gx_if_ne (tgt := 45) C dX9_isBarred_15 (by decide) (fun c_15 => ?_) (fun c_15 => ?_)
        · have hy := pI1 (c := (List.range j).any (pHit v.2.2.2.1.1 v.2.2.2.1.2.1 x1) = true ∨ (pHit v.2.2.2.1.1 v.2.2.2.1.2.1 x1) j = true) (Or.inl (pAny_1 c_15))
          refine gx_iconst (v := 1) C dX9_isBarred_45 (by decide) ?_
          refine gx_goto (tgt := 50) C dX9_isBarred_46 (by decide) ?_
          refine gx_istore_n C dX9_isBarred_50 (by decide) ?_
          first | refine gx_iincN C dX9_isBarred_51 rfl (by decide) ?_ | refine gx_iinc1 C dX9_isBarred_51 rfl (by decide) ?_
          refine gx_goto (tgt := 4) C dX9_isBarred_54 (by decide) ?_
          refine gx_V ?_ (ih (j + 1) (by omega) (by omega))
          rw [← pAny_s (f := (pHit v.2.2.2.1.1 v.2.2.2.1.2.1 x1)) (j := j) _ hy.symm]
          rfl
        · refine gx_aload_n C dX9_isBarred_18 rfl ?_
          refine gx_get C fd_X9_isBarred_7 (hG := ho) (hv := by rfl) dX9_isBarred_19 ?_
          refine gx_iload_n C dX9_isBarred_22 rfl ?_
          refine gx_callS C (k9_listed l D A hs j) cb_X9_isBarred__X9_listed gX9_isBarred_X9_listed rfl rfl (Nat.le_of_ble_eq_true rfl) ⟨Nat.le_refl _, Nat.le_refl _⟩ dX9_isBarred_23 (gx_ki fun r_23 G_23 h_23 => ?_)
          obtain ⟨rfl, rfl⟩ := h_23
          refine gx_iconst (v := nI 4) C dX9_isBarred_26 (by decide) ?_
          refine gx_iadd C dX9_isBarred_27 ?_
          first | refine gx_top (nI_add _ _) ?_ | skip
          refine gx_ialdN C (hG := hs1) (hk := by omega) (hn := by omega) dX9_isBarred_28 ?_
          rw [lj.2.2.1]
          refine gx_iconst (v := 1) C dX9_isBarred_29 (by decide) ?_
          refine gx_icmp_ne (tgt := 49) C dX9_isBarred_30 (by decide) (fun c_30 => ?_) (fun c_30 => ?_)
          · have hy := pI0 (c := (List.range j).any (pHit v.2.2.2.1.1 v.2.2.2.1.2.1 x1) = true ∨ (pHit v.2.2.2.1.1 v.2.2.2.1.2.1 x1) j = true) (fun q => q.elim (pAny_0 c_15) (fun q => by simp only [pHit, Bool.and_eq_true, decide_eq_true_eq] at q; exact c_30 q.1))
            refine gx_iconst (v := 0) C dX9_isBarred_49 (by decide) ?_
            refine gx_istore_n C dX9_isBarred_50 (by decide) ?_
            first | refine gx_iincN C dX9_isBarred_51 rfl (by decide) ?_ | refine gx_iinc1 C dX9_isBarred_51 rfl (by decide) ?_
            refine gx_goto (tgt := 4) C dX9_isBarred_54 (by decide) ?_
            refine gx_V ?_ (ih (j + 1) (by omega) (by omega))
            rw [← pAny_s (f := (pHit v.2.2.2.1.1 v.2.2.2.1.2.1 x1)) (j := j) _ hy.symm]
            rfl
          · refine gx_aload_n C dX9_isBarred_33 rfl ?_
            refine gx_iload_n C dX9_isBarred_34 rfl ?_
            refine gx_iload_n C dX9_isBarred_35 rfl ?_
            refine gx_callS C (k9_listed l D A hs j) cb_X9_isBarred__X9_listed gX9_isBarred_X9_listed rfl rfl (Nat.le_of_ble_eq_true rfl) ⟨Nat.le_refl _, Nat.le_refl _⟩ dX9_isBarred_36 (gx_ki fun r_36 G_36 h_36 => ?_)
            obtain ⟨rfl, rfl⟩ := h_36
            refine gx_callV (ci := 8) (T := TX9) (N := 11) C (k9_areAgainst l D A hs ho hs1 hp lj.1 hp8 (by omega) hx1 lj.2.1) cb_X9_isBarred__X9_areAgainst gX9_isBarred_X9_areAgainst rfl (hG := ho) rfl rfl (Nat.le_of_ble_eq_true rfl) ⟨Nat.le_refl _, Nat.le_refl _⟩ dX9_isBarred_39 (gx_ki fun r_39 G_39 h_39 => ?_)
            obtain ⟨rfl, rfl⟩ := h_39
            refine gx_if_eq (tgt := 49) C dX9_isBarred_42 (by decide) (fun c_42 => ?_) (fun c_42 => ?_)
            · have hy := pI0 (c := (List.range j).any (pHit v.2.2.2.1.1 v.2.2.2.1.2.1 x1) = true ∨ (pHit v.2.2.2.1.1 v.2.2.2.1.2.1 x1) j = true) (fun q => q.elim (pAny_0 c_15) (fun q => by simp only [pHit, Bool.and_eq_true, decide_eq_true_eq] at q; exact q.2 c_42))
              refine gx_iconst (v := 0) C dX9_isBarred_49 (by decide) ?_
              refine gx_istore_n C dX9_isBarred_50 (by decide) ?_
              first | refine gx_iincN C dX9_isBarred_51 rfl (by decide) ?_ | refine gx_iinc1 C dX9_isBarred_51 rfl (by decide) ?_
              refine gx_goto (tgt := 4) C dX9_isBarred_54 (by decide) ?_
              refine gx_V ?_ (ih (j + 1) (by omega) (by omega))
              rw [← pAny_s (f := (pHit v.2.2.2.1.1 v.2.2.2.1.2.1 x1)) (j := j) _ hy.symm]
              rfl
            · have hy := pI1 (c := (List.range j).any (pHit v.2.2.2.1.1 v.2.2.2.1.2.1 x1) = true ∨ (pHit v.2.2.2.1.1 v.2.2.2.1.2.1 x1) j = true) (Or.inr (by simp only [pHit, Bool.and_eq_true, decide_eq_true_eq]; exact ⟨c_30, c_42⟩))
              refine gx_iconst (v := 1) C dX9_isBarred_45 (by decide) ?_
              refine gx_goto (tgt := 50) C dX9_isBarred_46 (by decide) ?_
              refine gx_istore_n C dX9_isBarred_50 (by decide) ?_
              first | refine gx_iincN C dX9_isBarred_51 rfl (by decide) ?_ | refine gx_iinc1 C dX9_isBarred_51 rfl (by decide) ?_
              refine gx_goto (tgt := 4) C dX9_isBarred_54 (by decide) ?_
              refine gx_V ?_ (ih (j + 1) (by omega) (by omega))
              rw [← pAny_s (f := (pHit v.2.2.2.1.1 v.2.2.2.1.2.1 x1)) (j := j) _ hy.symm]
              rfl
  refine gx_iconst (v := 0) C dX9_isBarred_0 (by decide) ?_
  refine gx_istore_n C dX9_isBarred_1 (by decide) ?_
  refine gx_iconst (v := 0) C dX9_isBarred_2 (by decide) ?_
  refine gx_istore_n C dX9_isBarred_3 (by decide) ?_
  exact hloop (v.2.2.2.1.1.length + 1) 0 (by omega) (by omega)
