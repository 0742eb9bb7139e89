/-! CONSTRUCTORS -/
section GNW
variable {p : Program} {l : Launch} {e : Env} {R : Room} {s : State} {m : MethodId} {args : Array Value} {below : List Frame} {meth : Method} {c : Code} {cc : ByteArray} {ret : Option FieldType} {Ts : List Cond} {own nm : String} {D : gD} {A : Nat → Prop} {nL hs0 hs cells slots : Nat} {Q : State → Prop} {G : gH} {V : List (Option Value)} {pc : Nat} {rest : List Value} {index ci N k a n : Nat} {Cn : String} {T : u_T} {fs : List Value} {f : Nat → Int32} {fq : Nat → Option Nat}
theorem gx_hs {hs' cells' slots' : Nat} (e1 : hs = hs') (e2 : cells = cells') (e3 : slots = slots') (kk : gX p l e R s m args below meth c D A nL hs' cells' slots' Q G V pc rest) : gX p l e R s m args below meth c D A nL hs cells slots Q G V pc rest := by
  subst e1
  subst e2
  subst e3
  exact kk
theorem gx_newG (C : gC p s m args meth c cc ret Ts own nm D A nL hs0) (hin : ∀ w ∈ u_ws Cn T N, w ∈ Ts) (hc : vwCl[ci]? = some (Cn, T, N)) {ty : Nat → FieldType} (hty : ∀ k, k < N → parseFieldDescriptor (T k).2.2.1 = some (ty k)) (hcl : Cond.classLink own index Cn ∈ Ts) (hinst : Cond.instantiable Cn N ∈ Ts) (hini : Cond.initialized Cn ∈ Ts) (hA : ∀ q, hs0 ≤ q → A q) (hfs : ∀ j, j < N → defaultValue (ty j) = vp_V fs j) (hcells : cells + 1 ≤ R.cells) (hslots : slots + N ≤ R.slots) (hdg : decode cc pc = .ok (.new index, 3))
    (kk : ∀ G1 : gH, G1 hs = some (.inr (ci, fs)) → gOut hs 1 G G1 → gX p l e R s m args below meth c D A nL (hs + 1) (cells + 1) (slots + N) Q G1 V (pc + 3) (.ref hs :: rest)) : gX p l e R s m args below meth c D A nL hs cells slots Q G V pc rest :=
  gx_new C hin hc hty hcl hinst hini hA hfs hcells hslots hdg (kk _ gU_s (gOut_up gOut_rf ⟨Nat.le_refl _, Nat.lt_succ_self _⟩))
theorem gx_newaG (C : gC p s m args meth c cc ret Ts own nm D A nL hs0) (harr : Cond.arrayClass .int ∈ Ts) (hA : ∀ q, hs0 ≤ q → A q) {x : Int32} (hn : ¬ x < 0) (hN : x.toNatClampNeg = n) (hbytes : n * 4 ≤ 536870912) (hcells : cells + 1 ≤ R.cells) (hslots : slots + n ≤ R.slots) (hdg : decode cc pc = .ok (.newarray .int, 2))
    (kk : ∀ G1 : gH, G1 hs = some (.inl (D.1.1 100, n, .inl (fun _ => 0))) → gOut hs 1 G G1 → gX p l e R s m args below meth c D A nL (hs + 1) (cells + 1) (slots + n) Q G1 V (pc + 2) (.ref hs :: rest)) : gX p l e R s m args below meth c D A nL hs cells slots Q G V pc (.int x :: rest) :=
  gx_newa C harr hA hn hN hbytes hcells hslots hdg (kk _ gU_s (gOut_up gOut_rf ⟨Nat.le_refl _, Nat.lt_succ_self _⟩))
theorem gx_newqG (C : gC p s m args meth c cc ret Ts own nm D A nL hs0) {t0 : Nat} {cA : ClassId} (ht : (gTys D)[t0]? = some (cA, .object Cn)) (hcl : Cond.classLink own index Cn ∈ Ts) (hover : ∀ (U : State) (H : Heap), gStr D.2 A U H → va_AO Cn U) (hA : ∀ q, hs0 ≤ q → A q) {x : Int32} (hn : ¬ x < 0) (hN : x.toNatClampNeg = n) (hbytes : n * 4 ≤ 536870912) (hcells : cells + 1 ≤ R.cells) (hslots : slots + n ≤ R.slots) (hdg : decode cc pc = .ok (.anewarray index, 3))
    (kk : ∀ G1 : gH, G1 hs = some (.inl (cA, n, .inr (.inr (.inr (.inr (fun _ => none)))))) → gOut hs 1 G G1 → gX p l e R s m args below meth c D A nL (hs + 1) (cells + 1) (slots + n) Q G1 V (pc + 3) (.ref hs :: rest)) : gX p l e R s m args below meth c D A nL hs cells slots Q G V pc (.int x :: rest) :=
  gx_newq C ht hcl hover hA hn hN hbytes hcells hslots hdg (kk _ gU_s (gOut_up gOut_rf ⟨Nat.le_refl _, Nat.lt_succ_self _⟩))
theorem gx_putFG (C : gC p s m args meth c cc ret Ts own nm D A nL hs0) (F : gFd Ts own index ci Cn T N k) {ty0 : Nat → FieldType} (hty : ∀ k, k < N → parseFieldDescriptor (T k).2.2.1 = some (ty0 k)) (hnm : ∀ a, a < N → ∀ b, b < N → a ≠ b → (T a).2.1 ≠ (T b).2.1) (hfin : (T k).2.2.2 = true) (hini : nm = "<init>") (hdecl : (T k).1 = own) {v : Value} (hn : narrow (ty0 k) v = v) (hfit : fits (ty0 k) v = true) (hG : G a = some (.inr (ci, fs))) (hl : k < fs.length) (hdg : decode cc pc = .ok (.putfield index, 3))
    (kk : ∀ G1 : gH, G1 a = some (.inr (ci, fs.set k v)) → gOut a 1 G G1 → gX p l e R s m args below meth c D A nL hs cells slots Q G1 V (pc + 3) rest) : gX p l e R s m args below meth c D A nL hs cells slots Q G V pc (v :: .ref a :: rest) :=
  gx_putF C F hty hnm hfin hini hdecl hn hfit hG hl hdg (kk _ gU_s (gOut_up gOut_rf ⟨Nat.le_refl _, Nat.lt_succ_self _⟩))
theorem gx_aastG (C : gC p s m args meth c cc ret Ts own nm D A nL hs0) {t0 v ck : Nat} {vs : List Value} {r : vw_C} {cA : ClassId} {i : Nat} (hG : G a = some (.inl (cA, n, .inr (.inr (.inr (.inr fq)))))) (ht : (gTys D)[t0]? = some (cA, .object r.1)) (hv : G v = some (.inr (ck, vs))) (hc : vwCl[ck]? = some r) (hi : i < n) (hn : n < 2 ^ 31) (hdg : decode cc pc = .ok (.aastore, 1))
    (kk : ∀ G1 : gH, G1 a = some (.inl (cA, n, .inr (.inr (.inr (.inr (va_up fq i (some v))))))) → gOut a 1 G G1 → gX p l e R s m args below meth c D A nL hs cells slots Q G1 V (pc + 1) rest) : gX p l e R s m args below meth c D A nL hs cells slots Q G V pc (.ref v :: .int (nI i) :: .ref a :: rest) := by
  refine gx_aast C hG ht hv hc (vp_in_nI hi hn) hdg (kk _ ?_ (gOut_up gOut_rf ⟨Nat.le_refl _, Nat.lt_succ_self _⟩))
  rw [gU_s, nI_clamp (by omega)]
end GNW
theorem vup_s {f : Nat → Option Nat} {i j : Nat} {v : Option Nat} : va_up f i v j = if j = i then v else f j := rfl
theorem df_X5 : ∀ j, j < 2 → defaultValue (tyX5 j) = vp_V [.null, .int 0] j := by
  intro j hj
  rcases (show j = 0 ∨ j = 1 by omega) with rfl | rfl <;> rfl
theorem df_X2 : ∀ j, j < 4 → defaultValue (tyX2 j) = vp_V [.null, .null, .null, .null] j := by
  intro j hj
  rcases (show j = 0 ∨ j = 1 ∨ j = 2 ∨ j = 3 by omega) with rfl | rfl | rfl | rfl <;> rfl
theorem df_X6 : ∀ j, j < 3 → defaultValue (tyX6 j) = vp_V [.null, .int 0, .int 0] j := by
  intro j hj
  rcases (show j = 0 ∨ j = 1 ∨ j = 2 by omega) with rfl | rfl | rfl <;> rfl
theorem df_X7 : ∀ j, j < 9 → defaultValue (tyX7 j) = vp_V [.null, .null, .null, .null, .null, .null, .null, .int 0, .int 0] j := by
  intro j hj
  rcases (show j = 0 ∨ j = 1 ∨ j = 2 ∨ j = 3 ∨ j = 4 ∨ j = 5 ∨ j = 6 ∨ j = 7 ∨ j = 8 by omega) with rfl | rfl | rfl | rfl | rfl | rfl | rfl | rfl | rfl <;> rfl
theorem df_X0 : ∀ j, j < 2 → defaultValue (tyX0 j) = vp_V [.null, .int 0] j := by
  intro j hj
  rcases (show j = 0 ∨ j = 1 by omega) with rfl | rfl <;> rfl
theorem df_X3 : ∀ j, j < 5 → defaultValue (tyX3 j) = vp_V [.null, .null, .int 0, .int 0, .int 0] j := by
  intro j hj
  rcases (show j = 0 ∨ j = 1 ∨ j = 2 ∨ j = 3 ∨ j = 4 by omega) with rfl | rfl | rfl | rfl | rfl <;> rfl
theorem df_X4 : ∀ j, j < 4 → defaultValue (tyX4 j) = vp_V [.null, .null, .null, .null] j := by
  intro j hj
  rcases (show j = 0 ∨ j = 1 ∨ j = 2 ∨ j = 3 by omega) with rfl | rfl | rfl | rfl <;> rfl
theorem df_X8 : ∀ j, j < 4 → defaultValue (tyX8 j) = vp_V [.null, .null, .null, .null] j := by
  intro j hj
  rcases (show j = 0 ∨ j = 1 ∨ j = 2 ∨ j = 3 by omega) with rfl | rfl | rfl | rfl <;> rfl
theorem df_X9 : ∀ j, j < 11 → defaultValue (tyX9 j) = vp_V [.null, .null, .int 0, .null, .int 0, .null, .int 0, .int 0, .int 0, .null, .int 0] j := by
  intro j hj
  rcases (show j = 0 ∨ j = 1 ∨ j = 2 ∨ j = 3 ∨ j = 4 ∨ j = 5 ∨ j = 6 ∨ j = 7 ∨ j = 8 ∨ j = 9 ∨ j = 10 by omega) with rfl | rfl | rfl | rfl | rfl | rfl | rfl | rfl | rfl | rfl | rfl <;> rfl
def v0 : SV := ([], 0, [], ([], [], [], []), (List.replicate 5 0, List.replicate 6 0, List.replicate 6 0, List.replicate 6 0))
theorem gC1_fr {G G' : gH} {r b n : Nat} {x : Option va_E} (h : G r = x) (ho : gOut b n G G') (hd : r + 1 ≤ b ∨ b + n ≤ r) : G' r = x := (ho r (by omega)).trans h
set_option maxRecDepth 20000 in
theorem mm_X5_init_oi1 : Cond.methodLink RX5 1 objectInit ∈ wsX5_init := by decide +kernel
set_option maxRecDepth 20000 in
theorem mm_X5_init_oi2 : Cond.instanceMethod objectInit ∈ wsX5_init := by decide +kernel
set_option maxRecDepth 20000 in
theorem mm_X5_init_oi3 : Cond.code objectInit ⟨#[0xb1]⟩ 1 none ∈ wsX5_init := by decide +kernel
set_option maxRecDepth 20000 in
theorem mm_X5_init_ac : Cond.arrayClass .int ∈ wsX5_init := by decide +kernel
set_option maxRecDepth 20000 in
theorem in_X5_init_X5 : ∀ w ∈ wsX50, w ∈ wsX5_init := by decide +kernel
set_option maxRecDepth 20000 in
theorem fd_X5_init_7 : gFd wsX5_init RX5 7 4 RX5 TX5 2 0 := ⟨in_X5_init_X5, rfl, by decide, by decide +kernel⟩
set_option maxRecDepth 20000 in
theorem mm_X2_init_oi1 : Cond.methodLink RX2 3 objectInit ∈ wsX2_init := by decide +kernel
set_option maxRecDepth 20000 in
theorem mm_X2_init_oi2 : Cond.instanceMethod objectInit ∈ wsX2_init := by decide +kernel
set_option maxRecDepth 20000 in
theorem mm_X2_init_oi3 : Cond.code objectInit ⟨#[0xb1]⟩ 1 none ∈ wsX2_init := by decide +kernel
set_option maxRecDepth 20000 in
theorem in_X2_init_X5 : ∀ w ∈ wsX50, w ∈ wsX2_init := by decide +kernel
set_option maxRecDepth 20000 in
theorem mm_X2_init_cl9 : Cond.classLink RX2 9 RX5 ∈ wsX2_init := by decide +kernel
set_option maxRecDepth 20000 in
theorem mm_X2_init_itX5 : Cond.instantiable RX5 2 ∈ wsX2_init := by decide +kernel
set_option maxRecDepth 20000 in
theorem mm_X2_init_iniX5 : Cond.initialized RX5 ∈ wsX2_init := by decide +kernel
set_option maxRecDepth 20000 in
theorem mm_X2_init_ml11 : Cond.methodLink RX2 11 yX5_init ∈ wsX2_init := by decide +kernel
set_option maxRecDepth 20000 in
theorem mm_X2_init_imX5_init : Cond.instanceMethod yX5_init ∈ wsX2_init := by decide +kernel
theorem cb_X2_init__X5_init_64 : gCb yX5_init cX5_init 2 none wsX5_init (gRc 1 1 64) (gRc 2 8 264) 1 64 1 := ⟨rfl, rfl, rfl, by decide +kernel, by decide⟩
set_option maxRecDepth 20000 in
theorem in_X2_init_X2 : ∀ w ∈ wsX20, w ∈ wsX2_init := by decide +kernel
set_option maxRecDepth 20000 in
theorem fd_X2_init_14 : gFd wsX2_init RX2 14 1 RX2 TX2 4 0 := ⟨in_X2_init_X2, rfl, by decide, by decide +kernel⟩
set_option maxRecDepth 20000 in
theorem fd_X2_init_20 : gFd wsX2_init RX2 20 1 RX2 TX2 4 1 := ⟨in_X2_init_X2, rfl, by decide, by decide +kernel⟩
set_option maxRecDepth 20000 in
theorem fd_X2_init_23 : gFd wsX2_init RX2 23 1 RX2 TX2 4 2 := ⟨in_X2_init_X2, rfl, by decide, by decide +kernel⟩
set_option maxRecDepth 20000 in
theorem fd_X2_init_26 : gFd wsX2_init RX2 26 1 RX2 TX2 4 3 := ⟨in_X2_init_X2, rfl, by decide, by decide +kernel⟩
set_option maxRecDepth 20000 in
theorem mm_X6_init_oi1 : Cond.methodLink RX6 3 objectInit ∈ wsX6_init := by decide +kernel
set_option maxRecDepth 20000 in
theorem mm_X6_init_oi2 : Cond.instanceMethod objectInit ∈ wsX6_init := by decide +kernel
set_option maxRecDepth 20000 in
theorem mm_X6_init_oi3 : Cond.code objectInit ⟨#[0xb1]⟩ 1 none ∈ wsX6_init := by decide +kernel
set_option maxRecDepth 20000 in
theorem in_X6_init_X5 : ∀ w ∈ wsX50, w ∈ wsX6_init := by decide +kernel
set_option maxRecDepth 20000 in
theorem mm_X6_init_cl9 : Cond.classLink RX6 9 RX5 ∈ wsX6_init := by decide +kernel
set_option maxRecDepth 20000 in
theorem mm_X6_init_itX5 : Cond.instantiable RX5 2 ∈ wsX6_init := by decide +kernel
set_option maxRecDepth 20000 in
theorem mm_X6_init_iniX5 : Cond.initialized RX5 ∈ wsX6_init := by decide +kernel
set_option maxRecDepth 20000 in
theorem mm_X6_init_ml11 : Cond.methodLink RX6 11 yX5_init ∈ wsX6_init := by decide +kernel
set_option maxRecDepth 20000 in
theorem mm_X6_init_imX5_init : Cond.instanceMethod yX5_init ∈ wsX6_init := by decide +kernel
theorem cb_X6_init__X5_init_8 : gCb yX5_init cX5_init 2 none wsX5_init (gRc 1 1 8) (gRc 2 2 10) 1 8 1 := ⟨rfl, rfl, rfl, by decide +kernel, by decide⟩
set_option maxRecDepth 20000 in
theorem in_X6_init_X6 : ∀ w ∈ wsX60, w ∈ wsX6_init := by decide +kernel
set_option maxRecDepth 20000 in
theorem fd_X6_init_14 : gFd wsX6_init RX6 14 5 RX6 TX6 3 0 := ⟨in_X6_init_X6, rfl, by decide, by decide +kernel⟩
set_option maxRecDepth 20000 in
theorem mm_X3_init_oi1 : Cond.methodLink RX3 3 objectInit ∈ wsX3_init := by decide +kernel
set_option maxRecDepth 20000 in
theorem mm_X3_init_oi2 : Cond.instanceMethod objectInit ∈ wsX3_init := by decide +kernel
set_option maxRecDepth 20000 in
theorem mm_X3_init_oi3 : Cond.code objectInit ⟨#[0xb1]⟩ 1 none ∈ wsX3_init := by decide +kernel
set_option maxRecDepth 20000 in
theorem in_X3_init_X5 : ∀ w ∈ wsX50, w ∈ wsX3_init := by decide +kernel
set_option maxRecDepth 20000 in
theorem mm_X3_init_cl9 : Cond.classLink RX3 9 RX5 ∈ wsX3_init := by decide +kernel
set_option maxRecDepth 20000 in
theorem mm_X3_init_itX5 : Cond.instantiable RX5 2 ∈ wsX3_init := by decide +kernel
set_option maxRecDepth 20000 in
theorem mm_X3_init_iniX5 : Cond.initialized RX5 ∈ wsX3_init := by decide +kernel
set_option maxRecDepth 20000 in
theorem mm_X3_init_ml11 : Cond.methodLink RX3 11 yX5_init ∈ wsX3_init := by decide +kernel
set_option maxRecDepth 20000 in
theorem mm_X3_init_imX5_init : Cond.instanceMethod yX5_init ∈ wsX3_init := by decide +kernel
theorem cb_X3_init__X5_init_80 : gCb yX5_init cX5_init 2 none wsX5_init (gRc 1 1 80) (gRc 2 4 92) 1 80 1 := ⟨rfl, rfl, rfl, by decide +kernel, by decide⟩
set_option maxRecDepth 20000 in
theorem in_X3_init_X3 : ∀ w ∈ wsX30, w ∈ wsX3_init := by decide +kernel
set_option maxRecDepth 20000 in
theorem fd_X3_init_14 : gFd wsX3_init RX3 14 2 RX3 TX3 5 0 := ⟨in_X3_init_X3, rfl, by decide, by decide +kernel⟩
theorem cb_X3_init__X5_init_8 : gCb yX5_init cX5_init 2 none wsX5_init (gRc 1 1 8) (gRc 2 4 92) 1 8 1 := ⟨rfl, rfl, rfl, by decide +kernel, by decide⟩
set_option maxRecDepth 20000 in
theorem fd_X3_init_20 : gFd wsX3_init RX3 20 2 RX3 TX3 5 1 := ⟨in_X3_init_X3, rfl, by decide, by decide +kernel⟩
set_option maxRecDepth 20000 in
theorem mm_X4_init_oi1 : Cond.methodLink RX4 3 objectInit ∈ wsX4_init := by decide +kernel
set_option maxRecDepth 20000 in
theorem mm_X4_init_oi2 : Cond.instanceMethod objectInit ∈ wsX4_init := by decide +kernel
set_option maxRecDepth 20000 in
theorem mm_X4_init_oi3 : Cond.code objectInit ⟨#[0xb1]⟩ 1 none ∈ wsX4_init := by decide +kernel
set_option maxRecDepth 20000 in
theorem in_X4_init_X5 : ∀ w ∈ wsX50, w ∈ wsX4_init := by decide +kernel
set_option maxRecDepth 20000 in
theorem mm_X4_init_cl9 : Cond.classLink RX4 9 RX5 ∈ wsX4_init := by decide +kernel
set_option maxRecDepth 20000 in
theorem mm_X4_init_itX5 : Cond.instantiable RX5 2 ∈ wsX4_init := by decide +kernel
set_option maxRecDepth 20000 in
theorem mm_X4_init_iniX5 : Cond.initialized RX5 ∈ wsX4_init := by decide +kernel
set_option maxRecDepth 20000 in
theorem mm_X4_init_ml11 : Cond.methodLink RX4 11 yX5_init ∈ wsX4_init := by decide +kernel
set_option maxRecDepth 20000 in
theorem mm_X4_init_imX5_init : Cond.instanceMethod yX5_init ∈ wsX4_init := by decide +kernel
theorem cb_X4_init__X5_init_101 : gCb yX5_init cX5_init 2 none wsX5_init (gRc 1 1 101) (gRc 2 8 437) 1 101 1 := ⟨rfl, rfl, rfl, by decide +kernel, by decide⟩
set_option maxRecDepth 20000 in
theorem in_X4_init_X4 : ∀ w ∈ wsX40, w ∈ wsX4_init := by decide +kernel
set_option maxRecDepth 20000 in
theorem fd_X4_init_14 : gFd wsX4_init RX4 14 3 RX4 TX4 4 0 := ⟨in_X4_init_X4, rfl, by decide, by decide +kernel⟩
theorem cb_X4_init__X5_init_100 : gCb yX5_init cX5_init 2 none wsX5_init (gRc 1 1 100) (gRc 2 8 437) 1 100 1 := ⟨rfl, rfl, rfl, by decide +kernel, by decide⟩
set_option maxRecDepth 20000 in
theorem fd_X4_init_20 : gFd wsX4_init RX4 20 3 RX4 TX4 4 1 := ⟨in_X4_init_X4, rfl, by decide, by decide +kernel⟩
theorem cb_X4_init__X5_init_64 : gCb yX5_init cX5_init 2 none wsX5_init (gRc 1 1 64) (gRc 2 8 437) 1 64 1 := ⟨rfl, rfl, rfl, by decide +kernel, by decide⟩
set_option maxRecDepth 20000 in
theorem fd_X4_init_23 : gFd wsX4_init RX4 23 3 RX4 TX4 4 2 := ⟨in_X4_init_X4, rfl, by decide, by decide +kernel⟩
theorem cb_X4_init__X5_init_164 : gCb yX5_init cX5_init 2 none wsX5_init (gRc 1 1 164) (gRc 2 8 437) 1 164 1 := ⟨rfl, rfl, rfl, by decide +kernel, by decide⟩
set_option maxRecDepth 20000 in
theorem fd_X4_init_26 : gFd wsX4_init RX4 26 3 RX4 TX4 4 3 := ⟨in_X4_init_X4, rfl, by decide, by decide +kernel⟩
set_option maxRecDepth 20000 in
theorem mm_X7_init_oi1 : Cond.methodLink RX7 3 objectInit ∈ wsX7_init := by decide +kernel
set_option maxRecDepth 20000 in
theorem mm_X7_init_oi2 : Cond.instanceMethod objectInit ∈ wsX7_init := by decide +kernel
set_option maxRecDepth 20000 in
theorem mm_X7_init_oi3 : Cond.code objectInit ⟨#[0xb1]⟩ 1 none ∈ wsX7_init := by decide +kernel
set_option maxRecDepth 20000 in
theorem in_X7_init_X5 : ∀ w ∈ wsX50, w ∈ wsX7_init := by decide +kernel
set_option maxRecDepth 20000 in
theorem mm_X7_init_cl9 : Cond.classLink RX7 9 RX5 ∈ wsX7_init := by decide +kernel
set_option maxRecDepth 20000 in
theorem mm_X7_init_itX5 : Cond.instantiable RX5 2 ∈ wsX7_init := by decide +kernel
set_option maxRecDepth 20000 in
theorem mm_X7_init_iniX5 : Cond.initialized RX5 ∈ wsX7_init := by decide +kernel
set_option maxRecDepth 20000 in
theorem mm_X7_init_ml11 : Cond.methodLink RX7 11 yX5_init ∈ wsX7_init := by decide +kernel
set_option maxRecDepth 20000 in
theorem mm_X7_init_imX5_init : Cond.instanceMethod yX5_init ∈ wsX7_init := by decide +kernel
theorem cb_X7_init__X5_init_100 : gCb yX5_init cX5_init 2 none wsX5_init (gRc 1 1 100) (gRc 3 44 513) 1 100 1 := ⟨rfl, rfl, rfl, by decide +kernel, by decide⟩
set_option maxRecDepth 20000 in
theorem in_X7_init_X7 : ∀ w ∈ wsX70, w ∈ wsX7_init := by decide +kernel
set_option maxRecDepth 20000 in
theorem fd_X7_init_14 : gFd wsX7_init RX7 14 6 RX7 TX7 9 0 := ⟨in_X7_init_X7, rfl, by decide, by decide +kernel⟩
set_option maxRecDepth 20000 in
theorem mm_X7_init_cl20 : Cond.classLink RX7 20 RX6 ∈ wsX7_init := by decide +kernel
set_option maxRecDepth 20000 in
theorem fd_X7_init_22 : gFd wsX7_init RX7 22 6 RX7 TX7 9 1 := ⟨in_X7_init_X7, rfl, by decide, by decide +kernel⟩
set_option maxRecDepth 20000 in
theorem in_X7_init_X2 : ∀ w ∈ wsX20, w ∈ wsX7_init := by decide +kernel
set_option maxRecDepth 20000 in
theorem mm_X7_init_cl26 : Cond.classLink RX7 26 RX2 ∈ wsX7_init := by decide +kernel
set_option maxRecDepth 20000 in
theorem mm_X7_init_itX2 : Cond.instantiable RX2 4 ∈ wsX7_init := by decide +kernel
set_option maxRecDepth 20000 in
theorem mm_X7_init_iniX2 : Cond.initialized RX2 ∈ wsX7_init := by decide +kernel
theorem cb_X7_init__X2_init : gCb yX2_init cX2_init 1 none wsX2_init (gRc 2 8 264) (gRc 3 44 513) 8 264 0 := ⟨rfl, rfl, rfl, by decide +kernel, by decide⟩
set_option maxRecDepth 20000 in
theorem mm_X7_init_imX2_init : Cond.instanceMethod yX2_init ∈ wsX7_init := by decide +kernel
set_option maxRecDepth 20000 in
theorem fd_X7_init_29 : gFd wsX7_init RX7 29 6 RX7 TX7 9 2 := ⟨in_X7_init_X7, rfl, by decide, by decide +kernel⟩
theorem cb_X7_init__X5_init_5 : gCb yX5_init cX5_init 2 none wsX5_init (gRc 1 1 5) (gRc 3 44 513) 1 5 1 := ⟨rfl, rfl, rfl, by decide +kernel, by decide⟩
set_option maxRecDepth 20000 in
theorem fd_X7_init_33 : gFd wsX7_init RX7 33 6 RX7 TX7 9 3 := ⟨in_X7_init_X7, rfl, by decide, by decide +kernel⟩
theorem cb_X7_init__X5_init_6 : gCb yX5_init cX5_init 2 none wsX5_init (gRc 1 1 6) (gRc 3 44 513) 1 6 1 := ⟨rfl, rfl, rfl, by decide +kernel, by decide⟩
set_option maxRecDepth 20000 in
theorem fd_X7_init_36 : gFd wsX7_init RX7 36 6 RX7 TX7 9 4 := ⟨in_X7_init_X7, rfl, by decide, by decide +kernel⟩
set_option maxRecDepth 20000 in
theorem fd_X7_init_39 : gFd wsX7_init RX7 39 6 RX7 TX7 9 5 := ⟨in_X7_init_X7, rfl, by decide, by decide +kernel⟩
set_option maxRecDepth 20000 in
theorem fd_X7_init_42 : gFd wsX7_init RX7 42 6 RX7 TX7 9 6 := ⟨in_X7_init_X7, rfl, by decide, by decide +kernel⟩
theorem cb_X7_init__X5_fill : gCb yX5_fill cX5_fill 4 none wsX5_fill (gR 1) (gRc 3 44 513) 0 0 2 := ⟨rfl, rfl, rfl, by decide +kernel, by decide⟩
set_option maxRecDepth 20000 in
theorem in_X7_init_X6 : ∀ w ∈ wsX60, w ∈ wsX7_init := by decide +kernel
set_option maxRecDepth 20000 in
theorem mm_X7_init_itX6 : Cond.instantiable RX6 3 ∈ wsX7_init := by decide +kernel
set_option maxRecDepth 20000 in
theorem mm_X7_init_iniX6 : Cond.initialized RX6 ∈ wsX7_init := by decide +kernel
theorem cb_X7_init__X6_init : gCb yX6_init cX6_init 1 none wsX6_init (gRc 2 2 10) (gRc 3 44 513) 2 10 0 := ⟨rfl, rfl, rfl, by decide +kernel, by decide⟩
set_option maxRecDepth 20000 in
theorem mm_X7_init_imX6_init : Cond.instanceMethod yX6_init ∈ wsX7_init := by decide +kernel
set_option maxRecDepth 20000 in
theorem mm_X0_init_oi1 : Cond.methodLink RX0 3 objectInit ∈ wsX0_init := by decide +kernel
set_option maxRecDepth 20000 in
theorem mm_X0_init_oi2 : Cond.instanceMethod objectInit ∈ wsX0_init := by decide +kernel
set_option maxRecDepth 20000 in
theorem mm_X0_init_oi3 : Cond.code objectInit ⟨#[0xb1]⟩ 1 none ∈ wsX0_init := by decide +kernel
set_option maxRecDepth 20000 in
theorem mm_X0_init_cl9 : Cond.classLink RX0 9 RX7 ∈ wsX0_init := by decide +kernel
set_option maxRecDepth 20000 in
theorem in_X0_init_X0 : ∀ w ∈ wsX00, w ∈ wsX0_init := by decide +kernel
set_option maxRecDepth 20000 in
theorem fd_X0_init_11 : gFd wsX0_init RX0 11 0 RX0 TX0 2 0 := ⟨in_X0_init_X0, rfl, by decide, by decide +kernel⟩
set_option maxRecDepth 20000 in
theorem in_X0_init_X7 : ∀ w ∈ wsX70, w ∈ wsX0_init := by decide +kernel
set_option maxRecDepth 20000 in
theorem mm_X0_init_itX7 : Cond.instantiable RX7 9 ∈ wsX0_init := by decide +kernel
set_option maxRecDepth 20000 in
theorem mm_X0_init_iniX7 : Cond.initialized RX7 ∈ wsX0_init := by decide +kernel
theorem cb_X0_init__X7_init : gCb yX7_init cX7_init 2 none wsX7_init (gRc 3 44 513) (gRc 4 181 2092) 44 513 0 := ⟨rfl, rfl, rfl, by decide +kernel, by decide⟩
set_option maxRecDepth 20000 in
theorem mm_X0_init_imX7_init : Cond.instanceMethod yX7_init ∈ wsX0_init := by decide +kernel
set_option maxRecDepth 20000 in
theorem mm_X0_init_ml17 : Cond.methodLink RX0 17 yX7_init ∈ wsX0_init := by decide +kernel
set_option maxRecDepth 20000 in
theorem mm_X8_init_oi1 : Cond.methodLink RX8 3 objectInit ∈ wsX8_init := by decide +kernel
set_option maxRecDepth 20000 in
theorem mm_X8_init_oi2 : Cond.instanceMethod objectInit ∈ wsX8_init := by decide +kernel
set_option maxRecDepth 20000 in
theorem mm_X8_init_oi3 : Cond.code objectInit ⟨#[0xb1]⟩ 1 none ∈ wsX8_init := by decide +kernel
set_option maxRecDepth 20000 in
theorem in_X8_init_X7 : ∀ w ∈ wsX70, w ∈ wsX8_init := by decide +kernel
set_option maxRecDepth 20000 in
theorem mm_X8_init_cl9 : Cond.classLink RX8 9 RX7 ∈ wsX8_init := by decide +kernel
set_option maxRecDepth 20000 in
theorem mm_X8_init_itX7 : Cond.instantiable RX7 9 ∈ wsX8_init := by decide +kernel
set_option maxRecDepth 20000 in
theorem mm_X8_init_iniX7 : Cond.initialized RX7 ∈ wsX8_init := by decide +kernel
theorem cb_X8_init__X7_init : gCb yX7_init cX7_init 2 none wsX7_init (gRc 3 44 513) (gRc 5 241 3154) 44 513 0 := ⟨rfl, rfl, rfl, by decide +kernel, by decide⟩
set_option maxRecDepth 20000 in
theorem mm_X8_init_imX7_init : Cond.instanceMethod yX7_init ∈ wsX8_init := by decide +kernel
set_option maxRecDepth 20000 in
theorem mm_X8_init_ml11 : Cond.methodLink RX8 11 yX7_init ∈ wsX8_init := by decide +kernel
set_option maxRecDepth 20000 in
theorem in_X8_init_X8 : ∀ w ∈ wsX80, w ∈ wsX8_init := by decide +kernel
set_option maxRecDepth 20000 in
theorem fd_X8_init_12 : gFd wsX8_init RX8 12 7 RX8 TX8 4 0 := ⟨in_X8_init_X8, rfl, by decide, by decide +kernel⟩
set_option maxRecDepth 20000 in
theorem in_X8_init_X0 : ∀ w ∈ wsX00, w ∈ wsX8_init := by decide +kernel
set_option maxRecDepth 20000 in
theorem mm_X8_init_cl16 : Cond.classLink RX8 16 RX0 ∈ wsX8_init := by decide +kernel
set_option maxRecDepth 20000 in
theorem mm_X8_init_itX0 : Cond.instantiable RX0 2 ∈ wsX8_init := by decide +kernel
set_option maxRecDepth 20000 in
theorem mm_X8_init_iniX0 : Cond.initialized RX0 ∈ wsX8_init := by decide +kernel
theorem cb_X8_init__X0_init : gCb yX0_init cX0_init 2 none wsX0_init (gRc 4 181 2092) (gRc 5 241 3154) 181 2092 0 := ⟨rfl, rfl, rfl, by decide +kernel, by decide⟩
set_option maxRecDepth 20000 in
theorem mm_X8_init_imX0_init : Cond.instanceMethod yX0_init ∈ wsX8_init := by decide +kernel
set_option maxRecDepth 20000 in
theorem mm_X8_init_ml18 : Cond.methodLink RX8 18 yX0_init ∈ wsX8_init := by decide +kernel
set_option maxRecDepth 20000 in
theorem fd_X8_init_19 : gFd wsX8_init RX8 19 7 RX8 TX8 4 1 := ⟨in_X8_init_X8, rfl, by decide, by decide +kernel⟩
set_option maxRecDepth 20000 in
theorem in_X8_init_X3 : ∀ w ∈ wsX30, w ∈ wsX8_init := by decide +kernel
set_option maxRecDepth 20000 in
theorem mm_X8_init_cl23 : Cond.classLink RX8 23 RX3 ∈ wsX8_init := by decide +kernel
set_option maxRecDepth 20000 in
theorem mm_X8_init_itX3 : Cond.instantiable RX3 5 ∈ wsX8_init := by decide +kernel
set_option maxRecDepth 20000 in
theorem mm_X8_init_iniX3 : Cond.initialized RX3 ∈ wsX8_init := by decide +kernel
theorem cb_X8_init__X3_init : gCb yX3_init cX3_init 1 none wsX3_init (gRc 2 4 92) (gRc 5 241 3154) 4 92 0 := ⟨rfl, rfl, rfl, by decide +kernel, by decide⟩
set_option maxRecDepth 20000 in
theorem mm_X8_init_imX3_init : Cond.instanceMethod yX3_init ∈ wsX8_init := by decide +kernel
set_option maxRecDepth 20000 in
theorem fd_X8_init_26 : gFd wsX8_init RX8 26 7 RX8 TX8 4 2 := ⟨in_X8_init_X8, rfl, by decide, by decide +kernel⟩
set_option maxRecDepth 20000 in
theorem in_X8_init_X4 : ∀ w ∈ wsX40, w ∈ wsX8_init := by decide +kernel
set_option maxRecDepth 20000 in
theorem mm_X8_init_cl30 : Cond.classLink RX8 30 RX4 ∈ wsX8_init := by decide +kernel
set_option maxRecDepth 20000 in
theorem mm_X8_init_itX4 : Cond.instantiable RX4 4 ∈ wsX8_init := by decide +kernel
set_option maxRecDepth 20000 in
theorem mm_X8_init_iniX4 : Cond.initialized RX4 ∈ wsX8_init := by decide +kernel
theorem cb_X8_init__X4_init : gCb yX4_init cX4_init 1 none wsX4_init (gRc 2 8 437) (gRc 5 241 3154) 8 437 0 := ⟨rfl, rfl, rfl, by decide +kernel, by decide⟩
set_option maxRecDepth 20000 in
theorem mm_X8_init_imX4_init : Cond.instanceMethod yX4_init ∈ wsX8_init := by decide +kernel
set_option maxRecDepth 20000 in
theorem fd_X8_init_33 : gFd wsX8_init RX8 33 7 RX8 TX8 4 3 := ⟨in_X8_init_X8, rfl, by decide, by decide +kernel⟩
set_option maxRecDepth 20000 in
theorem mm_X9_init_oi1 : Cond.methodLink RX9 1 objectInit ∈ wsX9_init := by decide +kernel
set_option maxRecDepth 20000 in
theorem mm_X9_init_oi2 : Cond.instanceMethod objectInit ∈ wsX9_init := by decide +kernel
set_option maxRecDepth 20000 in
theorem mm_X9_init_oi3 : Cond.code objectInit ⟨#[0xb1]⟩ 1 none ∈ wsX9_init := by decide +kernel
set_option maxRecDepth 20000 in
theorem mm_X9_init_ac : Cond.arrayClass .int ∈ wsX9_init := by decide +kernel
set_option maxRecDepth 20000 in
theorem in_X9_init_X9 : ∀ w ∈ wsX90, w ∈ wsX9_init := by decide +kernel
set_option maxRecDepth 20000 in
theorem fd_X9_init_7 : gFd wsX9_init RX9 7 8 RX9 TX9 11 0 := ⟨in_X9_init_X9, rfl, by decide, by decide +kernel⟩
set_option maxRecDepth 20000 in
theorem fd_X9_init_13 : gFd wsX9_init RX9 13 8 RX9 TX9 11 1 := ⟨in_X9_init_X9, rfl, by decide, by decide +kernel⟩
set_option maxRecDepth 20000 in
theorem fd_X9_init_16 : gFd wsX9_init RX9 16 8 RX9 TX9 11 3 := ⟨in_X9_init_X9, rfl, by decide, by decide +kernel⟩
set_option maxRecDepth 20000 in
theorem fd_X9_init_19 : gFd wsX9_init RX9 19 8 RX9 TX9 11 5 := ⟨in_X9_init_X9, rfl, by decide, by decide +kernel⟩
set_option maxRecDepth 20000 in
theorem fd_X9_init_22 : gFd wsX9_init RX9 22 8 RX9 TX9 11 9 := ⟨in_X9_init_X9, rfl, by decide, by decide +kernel⟩
set_option maxHeartbeats 600000 in
set_option maxRecDepth 100000 in
theorem k5_init (l : Launch) (D : gD) (A : Nat → Prop) {G : gH} {a : Nat} (cap : Nat) (hc : cap < 1000) (hA : ∀ q, a + 1 ≤ q → A q) (ho : G a = some (.inr (4, [.null, .int 0]))) : gM l yX5_init wsX5_init (gRc 1 1 cap) D A (a + 1) 1 cap [.ref a, .int (nI cap)] G (gPv fun G' => gRow D G' a cap [] ∧ gOut a 2 G G') := by
  refine gM_intro (by decide) rfl rfl (Nat.le_of_ble_eq_true rfl) ?_
  intro p e s m args below meth c C
  have h0 : 0 ≤ nI cap := nI_le (a := 0) (Nat.zero_le _) (by omega)
  refine gx_aload_n C dX5_init_0 rfl ?_
  refine gx_objInit C mm_X5_init_oi1 mm_X5_init_oi2 mm_X5_init_oi3 (Nat.le_of_ble_eq_true rfl) (Nat.le_of_ble_eq_true rfl) dX5_init_1 ?_
  refine gx_aload_n C dX5_init_4 rfl ?_
  refine gx_iload_n C dX5_init_5 rfl ?_
  refine gx_if_ge (tgt := 13) C dX5_init_6 (by decide) (fun c_6 => ?_) (fun c_6 => absurd h0 c_6)
  refine gx_iload_n C dX5_init_13 rfl ?_
  refine gx_newaG (n := cap) C mm_X5_init_ac hA (Int32.not_lt.mpr h0) (nI_clamp (by omega)) (by omega) (Nat.le_refl 1) (Nat.le_of_eq (Nat.zero_add _)) dX5_init_14 (fun G14 n14 o14 => ?_)
  have ho := (o14 a (by omega)).trans ho
  refine gx_putFG C fd_X5_init_7 tyX5_ok nmX5 rfl rfl rfl rfl rfl (hG := ho) (hl := by exact Nat.le_of_ble_eq_true rfl) dX5_init_16 (fun G16 n16 o16 => ?_)
  refine gx_hs (hs' := a + 1 + 1) (cells' := 1) (slots' := cap) rfl rfl (Nat.zero_add _) ?_
  refine gx_vret (mc := 1) C ?_ dX5_init_19
  exact ⟨rfl, ⟨fun _ => 0, n16, (o16 (a + 1) (by omega)).trans n14, Nat.zero_le _, hc, fun i hi => absurd hi (Nat.not_lt_zero _)⟩, gOut_tr (gOut_wd o14 (by omega)) (gOut_wd o16 (by omega))⟩
set_option maxHeartbeats 600000 in
set_option maxRecDepth 100000 in
theorem k2_init (l : Launch) (D : gD) (A : Nat → Prop) {G : gH} {a : Nat} (hA : ∀ q, a + 1 ≤ q → A q) (ho : G a = some (.inr (1, [.null, .null, .null, .null]))) : gM l yX2_init wsX2_init (gRc 2 8 264) D A (a + 1) 8 264 [.ref a] G (gPv fun G' => gList D G' a ([], [], [], []) ∧ gOut a 9 G G') := by
  refine gM_intro (by decide) rfl rfl (Nat.le_of_ble_eq_true rfl) ?_
  intro p e s m args below meth c C
  have hO : gOut a 9 G G := gOut_rf
  refine gx_aload_n C dX2_init_0 rfl ?_
  refine gx_objInit C mm_X2_init_oi1 mm_X2_init_oi2 mm_X2_init_oi3 (Nat.le_of_ble_eq_true rfl) (Nat.le_of_ble_eq_true rfl) dX2_init_1 ?_
  refine gx_aload_n C dX2_init_4 rfl ?_
  refine gx_newG (ci := 4) (T := TX5) (N := 2) (fs := [.null, .int 0]) C in_X2_init_X5 rfl tyX5_ok mm_X2_init_cl9 mm_X2_init_itX5 mm_X2_init_iniX5 hA df_X5 (by decide) (by decide) dX2_init_5 (fun G5 n5 o5 => ?_)
  have ho := (o5 a (by omega)).trans ho
  have hO := gOut_tr hO (gOut_wd o5 (by omega))
  refine gx_hs (hs' := (a + 2)) (cells' := 1) (slots' := 2) (by omega) (by omega) (by omega) ?_
  refine gx_dup C dX2_init_8 rfl ?_
  refine gx_bipush (v := nI 64) C dX2_init_9 (by decide) ?_
  refine gx_callI C (k5_init l D A 64 (by omega) (fun q hq => hA q (by omega)) n5) cb_X2_init__X5_init_64 gX2_init_X5_init mm_X2_init_ml11 mm_X2_init_iniX5 mm_X2_init_imX5_init rfl rfl rfl (Nat.le_of_ble_eq_true rfl) ⟨(by decide), (by decide)⟩ dX2_init_11 (gx_kv fun G11 h11 => ?_)
  obtain ⟨f0, o11⟩ := h11
  have ho := (o11 a (by omega)).trans ho
  have hO := gOut_tr hO (gOut_wd o11 (by omega))
  refine gx_hs (hs' := (a + 3)) (cells' := 2) (slots' := 66) (by omega) (by omega) (by omega) ?_
  refine gx_putFG C fd_X2_init_14 tyX2_ok nmX2 rfl rfl rfl rfl rfl (hG := ho) (hl := by exact Nat.le_of_ble_eq_true rfl) dX2_init_14 (fun G14 n14 o14 => ?_)
  have ho : G14 a = some (.inr (1, [.ref (a + 1), .null, .null, .null])) := n14
  have f0 := gRow_fr f0 o14 (by omega)
  have hO := gOut_tr hO (gOut_wd o14 (by omega))
  refine gx_aload_n C dX2_init_17 rfl ?_
  refine gx_newG (ci := 4) (T := TX5) (N := 2) (fs := [.null, .int 0]) C in_X2_init_X5 rfl tyX5_ok mm_X2_init_cl9 mm_X2_init_itX5 mm_X2_init_iniX5 hA df_X5 (by decide) (by decide) dX2_init_18 (fun G18 n18 o18 => ?_)
  have ho := (o18 a (by omega)).trans ho
  have f0 := gRow_fr f0 o18 (by omega)
  have hO := gOut_tr hO (gOut_wd o18 (by omega))
  refine gx_hs (hs' := (a + 4)) (cells' := 3) (slots' := 68) (by omega) (by omega) (by omega) ?_
  refine gx_dup C dX2_init_21 rfl ?_
  refine gx_bipush (v := nI 64) C dX2_init_22 (by decide) ?_
  refine gx_callI C (k5_init l D A 64 (by omega) (fun q hq => hA q (by omega)) n18) cb_X2_init__X5_init_64 gX2_init_X5_init mm_X2_init_ml11 mm_X2_init_iniX5 mm_X2_init_imX5_init rfl rfl rfl (Nat.le_of_ble_eq_true rfl) ⟨(by decide), (by decide)⟩ dX2_init_24 (gx_kv fun G24 h24 => ?_)
  obtain ⟨f1, o24⟩ := h24
  have ho := (o24 a (by omega)).trans ho
  have f0 := gRow_fr f0 o24 (by omega)
  have hO := gOut_tr hO (gOut_wd o24 (by omega))
  refine gx_hs (hs' := (a + 5)) (cells' := 4) (slots' := 132) (by omega) (by omega) (by omega) ?_
  refine gx_putFG C fd_X2_init_20 tyX2_ok nmX2 rfl rfl rfl rfl rfl (hG := ho) (hl := by exact Nat.le_of_ble_eq_true rfl) dX2_init_27 (fun G27 n27 o27 => ?_)
  have ho : G27 a = some (.inr (1, [.ref (a + 1), .ref (a + 3), .null, .null])) := n27
  have f0 := gRow_fr f0 o27 (by omega)
  have f1 := gRow_fr f1 o27 (by omega)
  have hO := gOut_tr hO (gOut_wd o27 (by omega))
  refine gx_aload_n C dX2_init_30 rfl ?_
  refine gx_newG (ci := 4) (T := TX5) (N := 2) (fs := [.null, .int 0]) C in_X2_init_X5 rfl tyX5_ok mm_X2_init_cl9 mm_X2_init_itX5 mm_X2_init_iniX5 hA df_X5 (by decide) (by decide) dX2_init_31 (fun G31 n31 o31 => ?_)
  have ho := (o31 a (by omega)).trans ho
  have f0 := gRow_fr f0 o31 (by omega)
  have f1 := gRow_fr f1 o31 (by omega)
  have hO := gOut_tr hO (gOut_wd o31 (by omega))
  refine gx_hs (hs' := (a + 6)) (cells' := 5) (slots' := 134) (by omega) (by omega) (by omega) ?_
  refine gx_dup C dX2_init_34 rfl ?_
  refine gx_bipush (v := nI 64) C dX2_init_35 (by decide) ?_
  refine gx_callI C (k5_init l D A 64 (by omega) (fun q hq => hA q (by omega)) n31) cb_X2_init__X5_init_64 gX2_init_X5_init mm_X2_init_ml11 mm_X2_init_iniX5 mm_X2_init_imX5_init rfl rfl rfl (Nat.le_of_ble_eq_true rfl) ⟨(by decide), (by decide)⟩ dX2_init_37 (gx_kv fun G37 h37 => ?_)
  obtain ⟨f2, o37⟩ := h37
  have ho := (o37 a (by omega)).trans ho
  have f0 := gRow_fr f0 o37 (by omega)
  have f1 := gRow_fr f1 o37 (by omega)
  have hO := gOut_tr hO (gOut_wd o37 (by omega))
  refine gx_hs (hs' := (a + 7)) (cells' := 6) (slots' := 198) (by omega) (by omega) (by omega) ?_
  refine gx_putFG C fd_X2_init_23 tyX2_ok nmX2 rfl rfl rfl rfl rfl (hG := ho) (hl := by exact Nat.le_of_ble_eq_true rfl) dX2_init_40 (fun G40 n40 o40 => ?_)
  have ho : G40 a = some (.inr (1, [.ref (a + 1), .ref (a + 3), .ref (a + 5), .null])) := n40
  have f0 := gRow_fr f0 o40 (by omega)
  have f1 := gRow_fr f1 o40 (by omega)
  have f2 := gRow_fr f2 o40 (by omega)
  have hO := gOut_tr hO (gOut_wd o40 (by omega))
  refine gx_aload_n C dX2_init_43 rfl ?_
  refine gx_newG (ci := 4) (T := TX5) (N := 2) (fs := [.null, .int 0]) C in_X2_init_X5 rfl tyX5_ok mm_X2_init_cl9 mm_X2_init_itX5 mm_X2_init_iniX5 hA df_X5 (by decide) (by decide) dX2_init_44 (fun G44 n44 o44 => ?_)
  have ho := (o44 a (by omega)).trans ho
  have f0 := gRow_fr f0 o44 (by omega)
  have f1 := gRow_fr f1 o44 (by omega)
  have f2 := gRow_fr f2 o44 (by omega)
  have hO := gOut_tr hO (gOut_wd o44 (by omega))
  refine gx_hs (hs' := (a + 8)) (cells' := 7) (slots' := 200) (by omega) (by omega) (by omega) ?_
  refine gx_dup C dX2_init_47 rfl ?_
  refine gx_bipush (v := nI 64) C dX2_init_48 (by decide) ?_
  refine gx_callI C (k5_init l D A 64 (by omega) (fun q hq => hA q (by omega)) n44) cb_X2_init__X5_init_64 gX2_init_X5_init mm_X2_init_ml11 mm_X2_init_iniX5 mm_X2_init_imX5_init rfl rfl rfl (Nat.le_of_ble_eq_true rfl) ⟨(by decide), (by decide)⟩ dX2_init_50 (gx_kv fun G50 h50 => ?_)
  obtain ⟨f3, o50⟩ := h50
  have ho := (o50 a (by omega)).trans ho
  have f0 := gRow_fr f0 o50 (by omega)
  have f1 := gRow_fr f1 o50 (by omega)
  have f2 := gRow_fr f2 o50 (by omega)
  have hO := gOut_tr hO (gOut_wd o50 (by omega))
  refine gx_hs (hs' := (a + 9)) (cells' := 8) (slots' := 264) (by omega) (by omega) (by omega) ?_
  refine gx_putFG C fd_X2_init_26 tyX2_ok nmX2 rfl rfl rfl rfl rfl (hG := ho) (hl := by exact Nat.le_of_ble_eq_true rfl) dX2_init_53 (fun G53 n53 o53 => ?_)
  have ho : G53 a = some (.inr (1, [.ref (a + 1), .ref (a + 3), .ref (a + 5), .ref (a + 7)])) := n53
  have f0 := gRow_fr f0 o53 (by omega)
  have f1 := gRow_fr f1 o53 (by omega)
  have f2 := gRow_fr f2 o53 (by omega)
  have f3 := gRow_fr f3 o53 (by omega)
  have hO := gOut_tr hO (gOut_wd o53 (by omega))
  refine gx_hs (hs' := a + 1 + 8) (cells' := 8) (slots' := 264) (by omega) rfl rfl ?_
  refine gx_vret (mc := 8) C ?_ dX2_init_56
  exact ⟨rfl, ⟨ho, f0, f1, f2, f3⟩, hO⟩
set_option maxHeartbeats 600000 in
set_option maxRecDepth 100000 in
theorem k6_init (l : Launch) (D : gD) (A : Nat → Prop) {G : gH} {a : Nat} (hA : ∀ q, a + 1 ≤ q → A q) (ho : G a = some (.inr (5, [.null, .int 0, .int 0]))) : gM l yX6_init wsX6_init (gRc 2 2 10) D A (a + 1) 2 10 [.ref a] G (gPv fun G' => gSheet D G' a (0, 0, []) ∧ gOut a 3 G G') := by
  refine gM_intro (by decide) rfl rfl (Nat.le_of_ble_eq_true rfl) ?_
  intro p e s m args below meth c C
  have hO : gOut a 3 G G := gOut_rf
  refine gx_aload_n C dX6_init_0 rfl ?_
  refine gx_objInit C mm_X6_init_oi1 mm_X6_init_oi2 mm_X6_init_oi3 (Nat.le_of_ble_eq_true rfl) (Nat.le_of_ble_eq_true rfl) dX6_init_1 ?_
  refine gx_aload_n C dX6_init_4 rfl ?_
  refine gx_newG (ci := 4) (T := TX5) (N := 2) (fs := [.null, .int 0]) C in_X6_init_X5 rfl tyX5_ok mm_X6_init_cl9 mm_X6_init_itX5 mm_X6_init_iniX5 hA df_X5 (by decide) (by decide) dX6_init_5 (fun G5 n5 o5 => ?_)
  have ho := (o5 a (by omega)).trans ho
  have hO := gOut_tr hO (gOut_wd o5 (by omega))
  refine gx_hs (hs' := (a + 2)) (cells' := 1) (slots' := 2) (by omega) (by omega) (by omega) ?_
  refine gx_dup C dX6_init_8 rfl ?_
  refine gx_bipush (v := nI 8) C dX6_init_9 (by decide) ?_
  refine gx_callI C (k5_init l D A 8 (by omega) (fun q hq => hA q (by omega)) n5) cb_X6_init__X5_init_8 gX6_init_X5_init mm_X6_init_ml11 mm_X6_init_iniX5 mm_X6_init_imX5_init rfl rfl rfl (Nat.le_of_ble_eq_true rfl) ⟨(by decide), (by decide)⟩ dX6_init_11 (gx_kv fun G11 h11 => ?_)
  obtain ⟨f0, o11⟩ := h11
  have ho := (o11 a (by omega)).trans ho
  have hO := gOut_tr hO (gOut_wd o11 (by omega))
  refine gx_hs (hs' := (a + 3)) (cells' := 2) (slots' := 10) (by omega) (by omega) (by omega) ?_
  refine gx_putFG C fd_X6_init_14 tyX6_ok nmX6 rfl rfl rfl rfl rfl (hG := ho) (hl := by exact Nat.le_of_ble_eq_true rfl) dX6_init_14 (fun G14 n14 o14 => ?_)
  have ho : G14 a = some (.inr (5, [.ref (a + 1), .int 0, .int 0])) := n14
  have f0 := gRow_fr f0 o14 (by omega)
  have hO := gOut_tr hO (gOut_wd o14 (by omega))
  refine gx_hs (hs' := a + 1 + 2) (cells' := 2) (slots' := 10) (by omega) rfl rfl ?_
  refine gx_vret (mc := 2) C ?_ dX6_init_17
  exact ⟨rfl, ⟨ho, f0⟩, hO⟩
set_option maxHeartbeats 600000 in
set_option maxRecDepth 100000 in
theorem k3_init (l : Launch) (D : gD) (A : Nat → Prop) {G : gH} {a : Nat} (hA : ∀ q, a + 1 ≤ q → A q) (ho : G a = some (.inr (2, [.null, .null, .int 0, .int 0, .int 0]))) : gM l yX3_init wsX3_init (gRc 2 4 92) D A (a + 1) 4 92 [.ref a] G (gPv fun G' => gMt D G' a [] [] 0 0 0 ∧ gOut a 5 G G') := by
  refine gM_intro (by decide) rfl rfl (Nat.le_of_ble_eq_true rfl) ?_
  intro p e s m args below meth c C
  have hO : gOut a 5 G G := gOut_rf
  refine gx_aload_n C dX3_init_0 rfl ?_
  refine gx_objInit C mm_X3_init_oi1 mm_X3_init_oi2 mm_X3_init_oi3 (Nat.le_of_ble_eq_true rfl) (Nat.le_of_ble_eq_true rfl) dX3_init_1 ?_
  refine gx_aload_n C dX3_init_4 rfl ?_
  refine gx_newG (ci := 4) (T := TX5) (N := 2) (fs := [.null, .int 0]) C in_X3_init_X5 rfl tyX5_ok mm_X3_init_cl9 mm_X3_init_itX5 mm_X3_init_iniX5 hA df_X5 (by decide) (by decide) dX3_init_5 (fun G5 n5 o5 => ?_)
  have ho := (o5 a (by omega)).trans ho
  have hO := gOut_tr hO (gOut_wd o5 (by omega))
  refine gx_hs (hs' := (a + 2)) (cells' := 1) (slots' := 2) (by omega) (by omega) (by omega) ?_
  refine gx_dup C dX3_init_8 rfl ?_
  refine gx_bipush (v := nI 80) C dX3_init_9 (by decide) ?_
  refine gx_callI C (k5_init l D A 80 (by omega) (fun q hq => hA q (by omega)) n5) cb_X3_init__X5_init_80 gX3_init_X5_init mm_X3_init_ml11 mm_X3_init_iniX5 mm_X3_init_imX5_init rfl rfl rfl (Nat.le_of_ble_eq_true rfl) ⟨(by decide), (by decide)⟩ dX3_init_11 (gx_kv fun G11 h11 => ?_)
  obtain ⟨f0, o11⟩ := h11
  have ho := (o11 a (by omega)).trans ho
  have hO := gOut_tr hO (gOut_wd o11 (by omega))
  refine gx_hs (hs' := (a + 3)) (cells' := 2) (slots' := 82) (by omega) (by omega) (by omega) ?_
  refine gx_putFG C fd_X3_init_14 tyX3_ok nmX3 rfl rfl rfl rfl rfl (hG := ho) (hl := by exact Nat.le_of_ble_eq_true rfl) dX3_init_14 (fun G14 n14 o14 => ?_)
  have ho : G14 a = some (.inr (2, [.ref (a + 1), .null, .int 0, .int 0, .int 0])) := n14
  have f0 := gRow_fr f0 o14 (by omega)
  have hO := gOut_tr hO (gOut_wd o14 (by omega))
  refine gx_aload_n C dX3_init_17 rfl ?_
  refine gx_newG (ci := 4) (T := TX5) (N := 2) (fs := [.null, .int 0]) C in_X3_init_X5 rfl tyX5_ok mm_X3_init_cl9 mm_X3_init_itX5 mm_X3_init_iniX5 hA df_X5 (by decide) (by decide) dX3_init_18 (fun G18 n18 o18 => ?_)
  have ho := (o18 a (by omega)).trans ho
  have f0 := gRow_fr f0 o18 (by omega)
  have hO := gOut_tr hO (gOut_wd o18 (by omega))
  refine gx_hs (hs' := (a + 4)) (cells' := 3) (slots' := 84) (by omega) (by omega) (by omega) ?_
  refine gx_dup C dX3_init_21 rfl ?_
  refine gx_bipush (v := nI 8) C dX3_init_22 (by decide) ?_
  refine gx_callI C (k5_init l D A 8 (by omega) (fun q hq => hA q (by omega)) n18) cb_X3_init__X5_init_8 gX3_init_X5_init mm_X3_init_ml11 mm_X3_init_iniX5 mm_X3_init_imX5_init rfl rfl rfl (Nat.le_of_ble_eq_true rfl) ⟨(by decide), (by decide)⟩ dX3_init_24 (gx_kv fun G24 h24 => ?_)
  obtain ⟨f1, o24⟩ := h24
  have ho := (o24 a (by omega)).trans ho
  have f0 := gRow_fr f0 o24 (by omega)
  have hO := gOut_tr hO (gOut_wd o24 (by omega))
  refine gx_hs (hs' := (a + 5)) (cells' := 4) (slots' := 92) (by omega) (by omega) (by omega) ?_
  refine gx_putFG C fd_X3_init_20 tyX3_ok nmX3 rfl rfl rfl rfl rfl (hG := ho) (hl := by exact Nat.le_of_ble_eq_true rfl) dX3_init_27 (fun G27 n27 o27 => ?_)
  have ho : G27 a = some (.inr (2, [.ref (a + 1), .ref (a + 3), .int 0, .int 0, .int 0])) := n27
  have f0 := gRow_fr f0 o27 (by omega)
  have f1 := gRow_fr f1 o27 (by omega)
  have hO := gOut_tr hO (gOut_wd o27 (by omega))
  refine gx_hs (hs' := a + 1 + 4) (cells' := 4) (slots' := 92) (by omega) rfl rfl ?_
  refine gx_vret (mc := 4) C ?_ dX3_init_30
  exact ⟨rfl, ⟨ho, f0, f1⟩, hO⟩
set_option maxHeartbeats 600000 in
set_option maxRecDepth 100000 in
theorem k4_init (l : Launch) (D : gD) (A : Nat → Prop) {G : gH} {a : Nat} (hA : ∀ q, a + 1 ≤ q → A q) (ho : G a = some (.inr (3, [.null, .null, .null, .null]))) : gM l yX4_init wsX4_init (gRc 2 8 437) D A (a + 1) 8 437 [.ref a] G (gPv fun G' => gPs D G' a ([], [], [], []) ∧ gOut a 9 G G') := by
  refine gM_intro (by decide) rfl rfl (Nat.le_of_ble_eq_true rfl) ?_
  intro p e s m args below meth c C
  have hO : gOut a 9 G G := gOut_rf
  refine gx_aload_n C dX4_init_0 rfl ?_
  refine gx_objInit C mm_X4_init_oi1 mm_X4_init_oi2 mm_X4_init_oi3 (Nat.le_of_ble_eq_true rfl) (Nat.le_of_ble_eq_true rfl) dX4_init_1 ?_
  refine gx_aload_n C dX4_init_4 rfl ?_
  refine gx_newG (ci := 4) (T := TX5) (N := 2) (fs := [.null, .int 0]) C in_X4_init_X5 rfl tyX5_ok mm_X4_init_cl9 mm_X4_init_itX5 mm_X4_init_iniX5 hA df_X5 (by decide) (by decide) dX4_init_5 (fun G5 n5 o5 => ?_)
  have ho := (o5 a (by omega)).trans ho
  have hO := gOut_tr hO (gOut_wd o5 (by omega))
  refine gx_hs (hs' := (a + 2)) (cells' := 1) (slots' := 2) (by omega) (by omega) (by omega) ?_
  refine gx_dup C dX4_init_8 rfl ?_
  refine gx_bipush (v := nI 101) C dX4_init_9 (by decide) ?_
  refine gx_callI C (k5_init l D A 101 (by omega) (fun q hq => hA q (by omega)) n5) cb_X4_init__X5_init_101 gX4_init_X5_init mm_X4_init_ml11 mm_X4_init_iniX5 mm_X4_init_imX5_init rfl rfl rfl (Nat.le_of_ble_eq_true rfl) ⟨(by decide), (by decide)⟩ dX4_init_11 (gx_kv fun G11 h11 => ?_)
  obtain ⟨f0, o11⟩ := h11
  have ho := (o11 a (by omega)).trans ho
  have hO := gOut_tr hO (gOut_wd o11 (by omega))
  refine gx_hs (hs' := (a + 3)) (cells' := 2) (slots' := 103) (by omega) (by omega) (by omega) ?_
  refine gx_putFG C fd_X4_init_14 tyX4_ok nmX4 rfl rfl rfl rfl rfl (hG := ho) (hl := by exact Nat.le_of_ble_eq_true rfl) dX4_init_14 (fun G14 n14 o14 => ?_)
  have ho : G14 a = some (.inr (3, [.ref (a + 1), .null, .null, .null])) := n14
  have f0 := gRow_fr f0 o14 (by omega)
  have hO := gOut_tr hO (gOut_wd o14 (by omega))
  refine gx_aload_n C dX4_init_17 rfl ?_
  refine gx_newG (ci := 4) (T := TX5) (N := 2) (fs := [.null, .int 0]) C in_X4_init_X5 rfl tyX5_ok mm_X4_init_cl9 mm_X4_init_itX5 mm_X4_init_iniX5 hA df_X5 (by decide) (by decide) dX4_init_18 (fun G18 n18 o18 => ?_)
  have ho := (o18 a (by omega)).trans ho
  have f0 := gRow_fr f0 o18 (by omega)
  have hO := gOut_tr hO (gOut_wd o18 (by omega))
  refine gx_hs (hs' := (a + 4)) (cells' := 3) (slots' := 105) (by omega) (by omega) (by omega) ?_
  refine gx_dup C dX4_init_21 rfl ?_
  refine gx_bipush (v := nI 100) C dX4_init_22 (by decide) ?_
  refine gx_callI C (k5_init l D A 100 (by omega) (fun q hq => hA q (by omega)) n18) cb_X4_init__X5_init_100 gX4_init_X5_init mm_X4_init_ml11 mm_X4_init_iniX5 mm_X4_init_imX5_init rfl rfl rfl (Nat.le_of_ble_eq_true rfl) ⟨(by decide), (by decide)⟩ dX4_init_24 (gx_kv fun G24 h24 => ?_)
  obtain ⟨f1, o24⟩ := h24
  have ho := (o24 a (by omega)).trans ho
  have f0 := gRow_fr f0 o24 (by omega)
  have hO := gOut_tr hO (gOut_wd o24 (by omega))
  refine gx_hs (hs' := (a + 5)) (cells' := 4) (slots' := 205) (by omega) (by omega) (by omega) ?_
  refine gx_putFG C fd_X4_init_20 tyX4_ok nmX4 rfl rfl rfl rfl rfl (hG := ho) (hl := by exact Nat.le_of_ble_eq_true rfl) dX4_init_27 (fun G27 n27 o27 => ?_)
  have ho : G27 a = some (.inr (3, [.ref (a + 1), .ref (a + 3), .null, .null])) := n27
  have f0 := gRow_fr f0 o27 (by omega)
  have f1 := gRow_fr f1 o27 (by omega)
  have hO := gOut_tr hO (gOut_wd o27 (by omega))
  refine gx_aload_n C dX4_init_30 rfl ?_
  refine gx_newG (ci := 4) (T := TX5) (N := 2) (fs := [.null, .int 0]) C in_X4_init_X5 rfl tyX5_ok mm_X4_init_cl9 mm_X4_init_itX5 mm_X4_init_iniX5 hA df_X5 (by decide) (by decide) dX4_init_31 (fun G31 n31 o31 => ?_)
  have ho := (o31 a (by omega)).trans ho
  have f0 := gRow_fr f0 o31 (by omega)
  have f1 := gRow_fr f1 o31 (by omega)
  have hO := gOut_tr hO (gOut_wd o31 (by omega))
  refine gx_hs (hs' := (a + 6)) (cells' := 5) (slots' := 207) (by omega) (by omega) (by omega) ?_
  refine gx_dup C dX4_init_34 rfl ?_
  refine gx_bipush (v := nI 64) C dX4_init_35 (by decide) ?_
  refine gx_callI C (k5_init l D A 64 (by omega) (fun q hq => hA q (by omega)) n31) cb_X4_init__X5_init_64 gX4_init_X5_init mm_X4_init_ml11 mm_X4_init_iniX5 mm_X4_init_imX5_init rfl rfl rfl (Nat.le_of_ble_eq_true rfl) ⟨(by decide), (by decide)⟩ dX4_init_37 (gx_kv fun G37 h37 => ?_)
  obtain ⟨f2, o37⟩ := h37
  have ho := (o37 a (by omega)).trans ho
  have f0 := gRow_fr f0 o37 (by omega)
  have f1 := gRow_fr f1 o37 (by omega)
  have hO := gOut_tr hO (gOut_wd o37 (by omega))
  refine gx_hs (hs' := (a + 7)) (cells' := 6) (slots' := 271) (by omega) (by omega) (by omega) ?_
  refine gx_putFG C fd_X4_init_23 tyX4_ok nmX4 rfl rfl rfl rfl rfl (hG := ho) (hl := by exact Nat.le_of_ble_eq_true rfl) dX4_init_40 (fun G40 n40 o40 => ?_)
  have ho : G40 a = some (.inr (3, [.ref (a + 1), .ref (a + 3), .ref (a + 5), .null])) := n40
  have f0 := gRow_fr f0 o40 (by omega)
  have f1 := gRow_fr f1 o40 (by omega)
  have f2 := gRow_fr f2 o40 (by omega)
  have hO := gOut_tr hO (gOut_wd o40 (by omega))
  refine gx_aload_n C dX4_init_43 rfl ?_
  refine gx_newG (ci := 4) (T := TX5) (N := 2) (fs := [.null, .int 0]) C in_X4_init_X5 rfl tyX5_ok mm_X4_init_cl9 mm_X4_init_itX5 mm_X4_init_iniX5 hA df_X5 (by decide) (by decide) dX4_init_44 (fun G44 n44 o44 => ?_)
  have ho := (o44 a (by omega)).trans ho
  have f0 := gRow_fr f0 o44 (by omega)
  have f1 := gRow_fr f1 o44 (by omega)
  have f2 := gRow_fr f2 o44 (by omega)
  have hO := gOut_tr hO (gOut_wd o44 (by omega))
  refine gx_hs (hs' := (a + 8)) (cells' := 7) (slots' := 273) (by omega) (by omega) (by omega) ?_
  refine gx_dup C dX4_init_47 rfl ?_
  refine gx_sipush (v := nI 164) C dX4_init_48 (by decide) ?_
  refine gx_callI C (k5_init l D A 164 (by omega) (fun q hq => hA q (by omega)) n44) cb_X4_init__X5_init_164 gX4_init_X5_init mm_X4_init_ml11 mm_X4_init_iniX5 mm_X4_init_imX5_init rfl rfl rfl (Nat.le_of_ble_eq_true rfl) ⟨(by decide), (by decide)⟩ dX4_init_51 (gx_kv fun G51 h51 => ?_)
  obtain ⟨f3, o51⟩ := h51
  have ho := (o51 a (by omega)).trans ho
  have f0 := gRow_fr f0 o51 (by omega)
  have f1 := gRow_fr f1 o51 (by omega)
  have f2 := gRow_fr f2 o51 (by omega)
  have hO := gOut_tr hO (gOut_wd o51 (by omega))
  refine gx_hs (hs' := (a + 9)) (cells' := 8) (slots' := 437) (by omega) (by omega) (by omega) ?_
  refine gx_putFG C fd_X4_init_26 tyX4_ok nmX4 rfl rfl rfl rfl rfl (hG := ho) (hl := by exact Nat.le_of_ble_eq_true rfl) dX4_init_54 (fun G54 n54 o54 => ?_)
  have ho : G54 a = some (.inr (3, [.ref (a + 1), .ref (a + 3), .ref (a + 5), .ref (a + 7)])) := n54
  have f0 := gRow_fr f0 o54 (by omega)
  have f1 := gRow_fr f1 o54 (by omega)
  have f2 := gRow_fr f2 o54 (by omega)
  have f3 := gRow_fr f3 o54 (by omega)
  have hO := gOut_tr hO (gOut_wd o54 (by omega))
  refine gx_hs (hs' := a + 1 + 8) (cells' := 8) (slots' := 437) (by omega) rfl rfl ?_
  refine gx_vret (mc := 8) C ?_ dX4_init_57
  exact ⟨rfl, ⟨ho, f0, f1, f2, f3⟩, hO⟩
set_option maxHeartbeats 600000 in
set_option maxRecDepth 100000 in
theorem k7_init (l : Launch) (D : gD) (A : Nat → Prop) {G : gH} {a : Nat} (hA : ∀ q, a + 1 ≤ q → A q) (ho : G a = some (.inr (6, [.null, .null, .null, .null, .null, .null, .null, .int 0, .int 0]))) : gM l yX7_init wsX7_init (gRc 3 44 513) D A (a + 1) 44 513 [.ref a] G (gPv fun G' => gSv D G' a v0 ∧ gOut a 45 G G') := by
  refine gM_intro (by decide) rfl rfl (Nat.le_of_ble_eq_true rfl) ?_
  intro p e s m args below meth c C
  have hloop : ∀ (n j : Nat) (G1 : gH), 8 < j + n → j ≤ 8 → G1 a = some (.inr (6, [.ref (a + 1), .ref (a + 3), .ref (a + 4), .ref (a + 13), .ref (a + 15), .ref (a + 17), .ref (a + 19), .int 0, .int 0])) ∧ gRow D G1 (a + 1) 100 [] ∧ gList D G1 (a + 4) ([], [], [], []) ∧ gRow D G1 (a + 13) 5 [] ∧ gRow D G1 (a + 15) 6 [] ∧ gRow D G1 (a + 17) 6 [] ∧ gRow D G1 (a + 19) 6 [] ∧ (∃ f : Nat → Option Nat, G1 (a + 3) = some (.inl (D.1.1 101, 8, .inr (.inr (.inr (.inr f))))) ∧ ∀ i : Nat, i < j → f i = some (a + 21 + 3 * i)) ∧ (∀ i : Nat, i < j → gSheet D G1 (a + 21 + 3 * i) (0, 0, [])) ∧ gOut a 45 G G1 → gX p l e (gRc 3 44 513) s m args below meth c D A 2 (a + 21 + 3 * j) (20 + 3 * j) (409 + 13 * j) (MQ below (gQ D A (a + 1) 44 (gPv fun G' => gSv D G' a v0 ∧ gOut a 45 G G')) args s 44 513 A) G1 [some (.ref a), some (.int (nI j))] 90 [] := by
    intro n
    induction n with
    | zero => intro j G1 hm hj0 hI; exact absurd hm (by omega)
    | succ n ih =>
      intro j G1 hm hj0 hI
      obtain ⟨ho, ftx, fli, fa0, fa1, fa2, fa3, ⟨f, far, hf⟩, hsh, hO⟩ := hI
      refine gx_iload_n C dX7_init_90 rfl ?_
      refine gx_aload_n C dX7_init_91 rfl ?_
      refine gx_get C fd_X7_init_22 (hG := ho) (hv := by rfl) dX7_init_92 ?_
      refine gx_alen (t0 := 1) (v := nI 8) C (hG := far) (ht := by rfl) (hv := by rfl) dX7_init_95 ?_
      refine gx_icmp_ge (tgt := 118) C dX7_init_96 (by decide) (fun c_96 => ?_) (fun c_96 => ?_)
      · have hj : ¬ j < 8 := fun q => nI_ge q (by omega) c_96
        obtain rfl : j = 8 := by omega
        refine gx_hs (hs' := a + 1 + 44) (cells' := 44) (slots' := 513) (by omega) rfl rfl ?_
        refine gx_aload_n C dX7_init_118 rfl ?_
        refine gx_get C fd_X7_init_33 (hG := ho) (hv := by rfl) dX7_init_119 ?_
        refine gx_iconst (v := nI 5) C dX7_init_122 (by decide) ?_
        refine gx_iconst (v := 0) C dX7_init_123 (by decide) ?_
        refine gx_callV (ci := 4) (T := TX5) (N := 2) C (k5_fill l D A (a + 1 + 44) 5 0 fa0 (by omega)) cb_X7_init__X5_fill gX7_init_X5_fill rfl (hG := gRow_ob fa0) rfl rfl (Nat.le_of_ble_eq_true rfl) ⟨by decide, by decide⟩ dX7_init_124 (gx_kv fun G124 h124 => ?_)
        obtain ⟨fa0, o124⟩ := h124
        have ho := (o124 a (by omega)).trans ho
        have ftx := gRow_fr ftx o124 (by omega)
        have fli := gList_fr fli o124 (by omega)
        have fa1 := gRow_fr fa1 o124 (by omega)
        have fa2 := gRow_fr fa2 o124 (by omega)
        have fa3 := gRow_fr fa3 o124 (by omega)
        have far := gC1_fr far o124 (by omega)
        have hO := gOut_tr hO (gOut_wd o124 (by omega))
        have hsh : ∀ i : Nat, i < 8 → gSheet D G124 (a + 21 + 3 * i) (0, 0, []) := fun i hi => gSheet_fr (hsh i hi) o124 (by omega)
        refine gx_aload_n C dX7_init_127 rfl ?_
        refine gx_get C fd_X7_init_36 (hG := ho) (hv := by rfl) dX7_init_128 ?_
        refine gx_bipush (v := nI 6) C dX7_init_131 (by decide) ?_
        refine gx_iconst (v := 0) C dX7_init_133 (by decide) ?_
        refine gx_callV (ci := 4) (T := TX5) (N := 2) C (k5_fill l D A (a + 1 + 44) 6 0 fa1 (by omega)) cb_X7_init__X5_fill gX7_init_X5_fill rfl (hG := gRow_ob fa1) rfl rfl (Nat.le_of_ble_eq_true rfl) ⟨by decide, by decide⟩ dX7_init_134 (gx_kv fun G134 h134 => ?_)
        obtain ⟨fa1, o134⟩ := h134
        have ho := (o134 a (by omega)).trans ho
        have ftx := gRow_fr ftx o134 (by omega)
        have fli := gList_fr fli o134 (by omega)
        have fa2 := gRow_fr fa2 o134 (by omega)
        have fa3 := gRow_fr fa3 o134 (by omega)
        have far := gC1_fr far o134 (by omega)
        have fa0 := gRow_fr fa0 o134 (by omega)
        have hO := gOut_tr hO (gOut_wd o134 (by omega))
        have hsh : ∀ i : Nat, i < 8 → gSheet D G134 (a + 21 + 3 * i) (0, 0, []) := fun i hi => gSheet_fr (hsh i hi) o134 (by omega)
        refine gx_aload_n C dX7_init_137 rfl ?_
        refine gx_get C fd_X7_init_39 (hG := ho) (hv := by rfl) dX7_init_138 ?_
        refine gx_bipush (v := nI 6) C dX7_init_141 (by decide) ?_
        refine gx_iconst (v := 0) C dX7_init_143 (by decide) ?_
        refine gx_callV (ci := 4) (T := TX5) (N := 2) C (k5_fill l D A (a + 1 + 44) 6 0 fa2 (by omega)) cb_X7_init__X5_fill gX7_init_X5_fill rfl (hG := gRow_ob fa2) rfl rfl (Nat.le_of_ble_eq_true rfl) ⟨by decide, by decide⟩ dX7_init_144 (gx_kv fun G144 h144 => ?_)
        obtain ⟨fa2, o144⟩ := h144
        have ho := (o144 a (by omega)).trans ho
        have ftx := gRow_fr ftx o144 (by omega)
        have fli := gList_fr fli o144 (by omega)
        have fa3 := gRow_fr fa3 o144 (by omega)
        have far := gC1_fr far o144 (by omega)
        have fa0 := gRow_fr fa0 o144 (by omega)
        have fa1 := gRow_fr fa1 o144 (by omega)
        have hO := gOut_tr hO (gOut_wd o144 (by omega))
        have hsh : ∀ i : Nat, i < 8 → gSheet D G144 (a + 21 + 3 * i) (0, 0, []) := fun i hi => gSheet_fr (hsh i hi) o144 (by omega)
        refine gx_aload_n C dX7_init_147 rfl ?_
        refine gx_get C fd_X7_init_42 (hG := ho) (hv := by rfl) dX7_init_148 ?_
        refine gx_bipush (v := nI 6) C dX7_init_151 (by decide) ?_
        refine gx_iconst (v := 0) C dX7_init_153 (by decide) ?_
        refine gx_callV (ci := 4) (T := TX5) (N := 2) C (k5_fill l D A (a + 1 + 44) 6 0 fa3 (by omega)) cb_X7_init__X5_fill gX7_init_X5_fill rfl (hG := gRow_ob fa3) rfl rfl (Nat.le_of_ble_eq_true rfl) ⟨by decide, by decide⟩ dX7_init_154 (gx_kv fun G154 h154 => ?_)
        obtain ⟨fa3, o154⟩ := h154
        have ho := (o154 a (by omega)).trans ho
        have ftx := gRow_fr ftx o154 (by omega)
        have fli := gList_fr fli o154 (by omega)
        have far := gC1_fr far o154 (by omega)
        have fa0 := gRow_fr fa0 o154 (by omega)
        have fa1 := gRow_fr fa1 o154 (by omega)
        have fa2 := gRow_fr fa2 o154 (by omega)
        have hO := gOut_tr hO (gOut_wd o154 (by omega))
        have hsh : ∀ i : Nat, i < 8 → gSheet D G154 (a + 21 + 3 * i) (0, 0, []) := fun i hi => gSheet_fr (hsh i hi) o154 (by omega)
        refine gx_vret (mc := 44) C ?_ dX7_init_157
        exact ⟨rfl, ⟨ho, ⟨f, far, hf⟩, ftx, fli, ⟨fa0, fa1, fa2, fa3⟩, ⟨Nat.zero_le _, fun i hi => ⟨_, hsh i hi, fun q => absurd q (Nat.not_lt_zero _)⟩⟩⟩, hO⟩
      · have hj : j < 8 := by
          rcases Nat.lt_or_ge (j) (8) with q | q
          · exact q
          · exact absurd (nI_le q (by omega)) c_96
        refine gx_aload_n C dX7_init_99 rfl ?_
        refine gx_get C fd_X7_init_22 (hG := ho) (hv := by rfl) dX7_init_100 ?_
        refine gx_iload_n C dX7_init_103 rfl ?_
        refine gx_newG (ci := 5) (T := TX6) (N := 3) (fs := [.null, .int 0, .int 0]) C in_X7_init_X6 rfl tyX6_ok mm_X7_init_cl20 mm_X7_init_itX6 mm_X7_init_iniX6 hA df_X6 (by show 20 + 3 * j + 1 ≤ 44; omega) (by show 409 + 13 * j + 3 ≤ 513; omega) dX7_init_104 (fun G104 n104 o104 => ?_)
        have ho := (o104 a (by omega)).trans ho
        have ftx := gRow_fr ftx o104 (by omega)
        have fli := gList_fr fli o104 (by omega)
        have fa0 := gRow_fr fa0 o104 (by omega)
        have fa1 := gRow_fr fa1 o104 (by omega)
        have fa2 := gRow_fr fa2 o104 (by omega)
        have fa3 := gRow_fr fa3 o104 (by omega)
        have far := gC1_fr far o104 (by omega)
        have hO := gOut_tr hO (gOut_wd o104 (by omega))
        refine gx_hs (hs' := (a + 21 + 3 * j + 1)) (cells' := 20 + 3 * j + 1) (slots' := 409 + 13 * j + 3) (by omega) (by omega) (by omega) ?_
        have hsh := fun (i : Nat) (hi : i < j) => gSheet_fr (hsh i hi) o104 (by omega)
        refine gx_dup C dX7_init_107 rfl ?_
        refine gx_callIN C (k6_init l D A (fun q hq => hA q (by omega)) n104) cb_X7_init__X6_init gX7_init_X6_init_n45 (by decide +kernel) mm_X7_init_iniX6 mm_X7_init_imX6_init rfl rfl rfl (Nat.le_of_ble_eq_true rfl) ⟨(by show 20 + 3 * j + 1 + 2 ≤ 44; omega), (by show 409 + 13 * j + 3 + 10 ≤ 513; omega)⟩ dX7_init_108 (gx_kv fun G108 h108 => ?_)
        obtain ⟨fsh, o108⟩ := h108
        have ho := (o108 a (by omega)).trans ho
        have ftx := gRow_fr ftx o108 (by omega)
        have fli := gList_fr fli o108 (by omega)
        have fa0 := gRow_fr fa0 o108 (by omega)
        have fa1 := gRow_fr fa1 o108 (by omega)
        have fa2 := gRow_fr fa2 o108 (by omega)
        have fa3 := gRow_fr fa3 o108 (by omega)
        have far := gC1_fr far o108 (by omega)
        have hO := gOut_tr hO (gOut_wd o108 (by omega))
        refine gx_hs (hs' := (a + 21 + 3 * j + 3)) (cells' := 20 + 3 * j + 3) (slots' := 409 + 13 * j + 13) (by omega) (by omega) (by omega) ?_
        have hsh := fun (i : Nat) (hi : i < j) => gSheet_fr (hsh i hi) o108 (by omega)
        refine gx_aastG (t0 := 1) (r := (RX6, TX6, 3)) (ck := 5) C (hG := far) (ht := by rfl) (hv := fsh.1) (hc := by rfl) (hi := hj) (hn := by omega) dX7_init_111 (fun G111 n111 o111 => ?_)
        have ho := (o111 a (by omega)).trans ho
        have ftx := gRow_fr ftx o111 (by omega)
        have fli := gList_fr fli o111 (by omega)
        have fa0 := gRow_fr fa0 o111 (by omega)
        have fa1 := gRow_fr fa1 o111 (by omega)
        have fa2 := gRow_fr fa2 o111 (by omega)
        have fa3 := gRow_fr fa3 o111 (by omega)
        have hO := gOut_tr hO (gOut_wd o111 (by omega))
        have hsh := fun (i : Nat) (hi : i < j) => gSheet_fr (hsh i hi) o111 (by omega)
        have fsh := gSheet_fr fsh o111 (by omega)
        refine gx_iincN C dX7_init_112 rfl (by decide) ?_
        refine gx_goto (tgt := 90) C dX7_init_115 (by decide) ?_
        refine gx_hs (hs' := a + 21 + 3 * (j + 1)) (cells' := 20 + 3 * (j + 1)) (slots' := 409 + 13 * (j + 1)) (by omega) (by omega) (by omega) ?_
        refine ih (j + 1) _ (by omega) (by omega) ⟨ho, ftx, fli, fa0, fa1, fa2, fa3, ⟨_, n111, fun i hi => ?_⟩, fun i hi => ?_, hO⟩
        · rw [vup_s]
          by_cases q : i = j
          · rw [if_pos q, q]
          · rw [if_neg q]
            exact hf i (by omega)
        · by_cases q : i = j
          · rw [q]
            exact fsh
          · exact hsh i (by omega)
  have hO : gOut a 45 G G := gOut_rf
  refine gx_aload_n C dX7_init_0 rfl ?_
  refine gx_objInit C mm_X7_init_oi1 mm_X7_init_oi2 mm_X7_init_oi3 (Nat.le_of_ble_eq_true rfl) (Nat.le_of_ble_eq_true rfl) dX7_init_1 ?_
  refine gx_aload_n C dX7_init_4 rfl ?_
  refine gx_newG (ci := 4) (T := TX5) (N := 2) (fs := [.null, .int 0]) C in_X7_init_X5 rfl tyX5_ok mm_X7_init_cl9 mm_X7_init_itX5 mm_X7_init_iniX5 hA df_X5 (by decide) (by decide) dX7_init_5 (fun G5 n5 o5 => ?_)
  have ho := (o5 a (by omega)).trans ho
  have hO := gOut_tr hO (gOut_wd o5 (by omega))
  refine gx_hs (hs' := (a + 2)) (cells' := 1) (slots' := 2) (by omega) (by omega) (by omega) ?_
  refine gx_dup C dX7_init_8 rfl ?_
  refine gx_bipush (v := nI 100) C dX7_init_9 (by decide) ?_
  refine gx_callI C (k5_init l D A 100 (by omega) (fun q hq => hA q (by omega)) n5) cb_X7_init__X5_init_100 gX7_init_X5_init mm_X7_init_ml11 mm_X7_init_iniX5 mm_X7_init_imX5_init rfl rfl rfl (Nat.le_of_ble_eq_true rfl) ⟨(by decide), (by decide)⟩ dX7_init_11 (gx_kv fun G11 h11 => ?_)
  obtain ⟨ftx, o11⟩ := h11
  have ho := (o11 a (by omega)).trans ho
  have hO := gOut_tr hO (gOut_wd o11 (by omega))
  refine gx_hs (hs' := (a + 3)) (cells' := 2) (slots' := 102) (by omega) (by omega) (by omega) ?_
  refine gx_putFG C fd_X7_init_14 tyX7_ok nmX7 rfl rfl rfl rfl rfl (hG := ho) (hl := by exact Nat.le_of_ble_eq_true rfl) dX7_init_14 (fun G14 n14 o14 => ?_)
  have ho : G14 a = some (.inr (6, [.ref (a + 1), .null, .null, .null, .null, .null, .null, .int 0, .int 0])) := n14
  have ftx := gRow_fr ftx o14 (by omega)
  have hO := gOut_tr hO (gOut_wd o14 (by omega))
  refine gx_aload_n C dX7_init_17 rfl ?_
  refine gx_bipush (v := nI 8) C dX7_init_18 (by decide) ?_
  refine gx_newqG (t0 := 1) (n := 8) C rfl mm_X7_init_cl20 (fun _ _ h => h.2.2.2.2.1) hA (by decide) (by decide) (by omega) (by decide) (by decide) dX7_init_20 (fun G20 n20 o20 => ?_)
  have ho := (o20 a (by omega)).trans ho
  have ftx := gRow_fr ftx o20 (by omega)
  have hO := gOut_tr hO (gOut_wd o20 (by omega))
  have far := n20
  refine gx_hs (hs' := (a + 4)) (cells' := 3) (slots' := 110) (by omega) (by omega) (by omega) ?_
  refine gx_putFG C fd_X7_init_22 tyX7_ok nmX7 rfl rfl rfl rfl rfl (hG := ho) (hl := by exact Nat.le_of_ble_eq_true rfl) dX7_init_23 (fun G23 n23 o23 => ?_)
  have ho : G23 a = some (.inr (6, [.ref (a + 1), .ref (a + 3), .null, .null, .null, .null, .null, .int 0, .int 0])) := n23
  have ftx := gRow_fr ftx o23 (by omega)
  have far := gC1_fr far o23 (by omega)
  have hO := gOut_tr hO (gOut_wd o23 (by omega))
  refine gx_aload_n C dX7_init_26 rfl ?_
  refine gx_newG (ci := 1) (T := TX2) (N := 4) (fs := [.null, .null, .null, .null]) C in_X7_init_X2 rfl tyX2_ok mm_X7_init_cl26 mm_X7_init_itX2 mm_X7_init_iniX2 hA df_X2 (by decide) (by decide) dX7_init_27 (fun G27 n27 o27 => ?_)
  have ho := (o27 a (by omega)).trans ho
  have ftx := gRow_fr ftx o27 (by omega)
  have far := gC1_fr far o27 (by omega)
  have hO := gOut_tr hO (gOut_wd o27 (by omega))
  refine gx_hs (hs' := (a + 5)) (cells' := 4) (slots' := 114) (by omega) (by omega) (by omega) ?_
  refine gx_dup C dX7_init_30 rfl ?_
  refine gx_callIN C (k2_init l D A (fun q hq => hA q (by omega)) n27) cb_X7_init__X2_init gX7_init_X2_init_n28 (by decide +kernel) mm_X7_init_iniX2 mm_X7_init_imX2_init rfl rfl rfl (Nat.le_of_ble_eq_true rfl) ⟨(by decide), (by decide)⟩ dX7_init_31 (gx_kv fun G31 h31 => ?_)
  obtain ⟨fli, o31⟩ := h31
  have ho := (o31 a (by omega)).trans ho
  have ftx := gRow_fr ftx o31 (by omega)
  have far := gC1_fr far o31 (by omega)
  have hO := gOut_tr hO (gOut_wd o31 (by omega))
  refine gx_hs (hs' := (a + 13)) (cells' := 12) (slots' := 378) (by omega) (by omega) (by omega) ?_
  refine gx_putFG C fd_X7_init_29 tyX7_ok nmX7 rfl rfl rfl rfl rfl (hG := ho) (hl := by exact Nat.le_of_ble_eq_true rfl) dX7_init_34 (fun G34 n34 o34 => ?_)
  have ho : G34 a = some (.inr (6, [.ref (a + 1), .ref (a + 3), .ref (a + 4), .null, .null, .null, .null, .int 0, .int 0])) := n34
  have ftx := gRow_fr ftx o34 (by omega)
  have far := gC1_fr far o34 (by omega)
  have fli := gList_fr fli o34 (by omega)
  have hO := gOut_tr hO (gOut_wd o34 (by omega))
  refine gx_aload_n C dX7_init_37 rfl ?_
  refine gx_newG (ci := 4) (T := TX5) (N := 2) (fs := [.null, .int 0]) C in_X7_init_X5 rfl tyX5_ok mm_X7_init_cl9 mm_X7_init_itX5 mm_X7_init_iniX5 hA df_X5 (by decide) (by decide) dX7_init_38 (fun G38 n38 o38 => ?_)
  have ho := (o38 a (by omega)).trans ho
  have ftx := gRow_fr ftx o38 (by omega)
  have far := gC1_fr far o38 (by omega)
  have fli := gList_fr fli o38 (by omega)
  have hO := gOut_tr hO (gOut_wd o38 (by omega))
  refine gx_hs (hs' := (a + 14)) (cells' := 13) (slots' := 380) (by omega) (by omega) (by omega) ?_
  refine gx_dup C dX7_init_41 rfl ?_
  refine gx_iconst (v := nI 5) C dX7_init_42 (by decide) ?_
  refine gx_callI C (k5_init l D A 5 (by omega) (fun q hq => hA q (by omega)) n38) cb_X7_init__X5_init_5 gX7_init_X5_init mm_X7_init_ml11 mm_X7_init_iniX5 mm_X7_init_imX5_init rfl rfl rfl (Nat.le_of_ble_eq_true rfl) ⟨(by decide), (by decide)⟩ dX7_init_43 (gx_kv fun G43 h43 => ?_)
  obtain ⟨fa0, o43⟩ := h43
  have ho := (o43 a (by omega)).trans ho
  have ftx := gRow_fr ftx o43 (by omega)
  have far := gC1_fr far o43 (by omega)
  have fli := gList_fr fli o43 (by omega)
  have hO := gOut_tr hO (gOut_wd o43 (by omega))
  refine gx_hs (hs' := (a + 15)) (cells' := 14) (slots' := 385) (by omega) (by omega) (by omega) ?_
  refine gx_putFG C fd_X7_init_33 tyX7_ok nmX7 rfl rfl rfl rfl rfl (hG := ho) (hl := by exact Nat.le_of_ble_eq_true rfl) dX7_init_46 (fun G46 n46 o46 => ?_)
  have ho : G46 a = some (.inr (6, [.ref (a + 1), .ref (a + 3), .ref (a + 4), .ref (a + 13), .null, .null, .null, .int 0, .int 0])) := n46
  have ftx := gRow_fr ftx o46 (by omega)
  have far := gC1_fr far o46 (by omega)
  have fli := gList_fr fli o46 (by omega)
  have fa0 := gRow_fr fa0 o46 (by omega)
  have hO := gOut_tr hO (gOut_wd o46 (by omega))
  refine gx_aload_n C dX7_init_49 rfl ?_
  refine gx_newG (ci := 4) (T := TX5) (N := 2) (fs := [.null, .int 0]) C in_X7_init_X5 rfl tyX5_ok mm_X7_init_cl9 mm_X7_init_itX5 mm_X7_init_iniX5 hA df_X5 (by decide) (by decide) dX7_init_50 (fun G50 n50 o50 => ?_)
  have ho := (o50 a (by omega)).trans ho
  have ftx := gRow_fr ftx o50 (by omega)
  have far := gC1_fr far o50 (by omega)
  have fli := gList_fr fli o50 (by omega)
  have fa0 := gRow_fr fa0 o50 (by omega)
  have hO := gOut_tr hO (gOut_wd o50 (by omega))
  refine gx_hs (hs' := (a + 16)) (cells' := 15) (slots' := 387) (by omega) (by omega) (by omega) ?_
  refine gx_dup C dX7_init_53 rfl ?_
  refine gx_bipush (v := nI 6) C dX7_init_54 (by decide) ?_
  refine gx_callI C (k5_init l D A 6 (by omega) (fun q hq => hA q (by omega)) n50) cb_X7_init__X5_init_6 gX7_init_X5_init mm_X7_init_ml11 mm_X7_init_iniX5 mm_X7_init_imX5_init rfl rfl rfl (Nat.le_of_ble_eq_true rfl) ⟨(by decide), (by decide)⟩ dX7_init_56 (gx_kv fun G56 h56 => ?_)
  obtain ⟨fa1, o56⟩ := h56
  have ho := (o56 a (by omega)).trans ho
  have ftx := gRow_fr ftx o56 (by omega)
  have far := gC1_fr far o56 (by omega)
  have fli := gList_fr fli o56 (by omega)
  have fa0 := gRow_fr fa0 o56 (by omega)
  have hO := gOut_tr hO (gOut_wd o56 (by omega))
  refine gx_hs (hs' := (a + 17)) (cells' := 16) (slots' := 393) (by omega) (by omega) (by omega) ?_
  refine gx_putFG C fd_X7_init_36 tyX7_ok nmX7 rfl rfl rfl rfl rfl (hG := ho) (hl := by exact Nat.le_of_ble_eq_true rfl) dX7_init_59 (fun G59 n59 o59 => ?_)
  have ho : G59 a = some (.inr (6, [.ref (a + 1), .ref (a + 3), .ref (a + 4), .ref (a + 13), .ref (a + 15), .null, .null, .int 0, .int 0])) := n59
  have ftx := gRow_fr ftx o59 (by omega)
  have far := gC1_fr far o59 (by omega)
  have fli := gList_fr fli o59 (by omega)
  have fa0 := gRow_fr fa0 o59 (by omega)
  have fa1 := gRow_fr fa1 o59 (by omega)
  have hO := gOut_tr hO (gOut_wd o59 (by omega))
  refine gx_aload_n C dX7_init_62 rfl ?_
  refine gx_newG (ci := 4) (T := TX5) (N := 2) (fs := [.null, .int 0]) C in_X7_init_X5 rfl tyX5_ok mm_X7_init_cl9 mm_X7_init_itX5 mm_X7_init_iniX5 hA df_X5 (by decide) (by decide) dX7_init_63 (fun G63 n63 o63 => ?_)
  have ho := (o63 a (by omega)).trans ho
  have ftx := gRow_fr ftx o63 (by omega)
  have far := gC1_fr far o63 (by omega)
  have fli := gList_fr fli o63 (by omega)
  have fa0 := gRow_fr fa0 o63 (by omega)
  have fa1 := gRow_fr fa1 o63 (by omega)
  have hO := gOut_tr hO (gOut_wd o63 (by omega))
  refine gx_hs (hs' := (a + 18)) (cells' := 17) (slots' := 395) (by omega) (by omega) (by omega) ?_
  refine gx_dup C dX7_init_66 rfl ?_
  refine gx_bipush (v := nI 6) C dX7_init_67 (by decide) ?_
  refine gx_callI C (k5_init l D A 6 (by omega) (fun q hq => hA q (by omega)) n63) cb_X7_init__X5_init_6 gX7_init_X5_init mm_X7_init_ml11 mm_X7_init_iniX5 mm_X7_init_imX5_init rfl rfl rfl (Nat.le_of_ble_eq_true rfl) ⟨(by decide), (by decide)⟩ dX7_init_69 (gx_kv fun G69 h69 => ?_)
  obtain ⟨fa2, o69⟩ := h69
  have ho := (o69 a (by omega)).trans ho
  have ftx := gRow_fr ftx o69 (by omega)
  have far := gC1_fr far o69 (by omega)
  have fli := gList_fr fli o69 (by omega)
  have fa0 := gRow_fr fa0 o69 (by omega)
  have fa1 := gRow_fr fa1 o69 (by omega)
  have hO := gOut_tr hO (gOut_wd o69 (by omega))
  refine gx_hs (hs' := (a + 19)) (cells' := 18) (slots' := 401) (by omega) (by omega) (by omega) ?_
  refine gx_putFG C fd_X7_init_39 tyX7_ok nmX7 rfl rfl rfl rfl rfl (hG := ho) (hl := by exact Nat.le_of_ble_eq_true rfl) dX7_init_72 (fun G72 n72 o72 => ?_)
  have ho : G72 a = some (.inr (6, [.ref (a + 1), .ref (a + 3), .ref (a + 4), .ref (a + 13), .ref (a + 15), .ref (a + 17), .null, .int 0, .int 0])) := n72
  have ftx := gRow_fr ftx o72 (by omega)
  have far := gC1_fr far o72 (by omega)
  have fli := gList_fr fli o72 (by omega)
  have fa0 := gRow_fr fa0 o72 (by omega)
  have fa1 := gRow_fr fa1 o72 (by omega)
  have fa2 := gRow_fr fa2 o72 (by omega)
  have hO := gOut_tr hO (gOut_wd o72 (by omega))
  refine gx_aload_n C dX7_init_75 rfl ?_
  refine gx_newG (ci := 4) (T := TX5) (N := 2) (fs := [.null, .int 0]) C in_X7_init_X5 rfl tyX5_ok mm_X7_init_cl9 mm_X7_init_itX5 mm_X7_init_iniX5 hA df_X5 (by decide) (by decide) dX7_init_76 (fun G76 n76 o76 => ?_)
  have ho := (o76 a (by omega)).trans ho
  have ftx := gRow_fr ftx o76 (by omega)
  have far := gC1_fr far o76 (by omega)
  have fli := gList_fr fli o76 (by omega)
  have fa0 := gRow_fr fa0 o76 (by omega)
  have fa1 := gRow_fr fa1 o76 (by omega)
  have fa2 := gRow_fr fa2 o76 (by omega)
  have hO := gOut_tr hO (gOut_wd o76 (by omega))
  refine gx_hs (hs' := (a + 20)) (cells' := 19) (slots' := 403) (by omega) (by omega) (by omega) ?_
  refine gx_dup C dX7_init_79 rfl ?_
  refine gx_bipush (v := nI 6) C dX7_init_80 (by decide) ?_
  refine gx_callI C (k5_init l D A 6 (by omega) (fun q hq => hA q (by omega)) n76) cb_X7_init__X5_init_6 gX7_init_X5_init mm_X7_init_ml11 mm_X7_init_iniX5 mm_X7_init_imX5_init rfl rfl rfl (Nat.le_of_ble_eq_true rfl) ⟨(by decide), (by decide)⟩ dX7_init_82 (gx_kv fun G82 h82 => ?_)
  obtain ⟨fa3, o82⟩ := h82
  have ho := (o82 a (by omega)).trans ho
  have ftx := gRow_fr ftx o82 (by omega)
  have far := gC1_fr far o82 (by omega)
  have fli := gList_fr fli o82 (by omega)
  have fa0 := gRow_fr fa0 o82 (by omega)
  have fa1 := gRow_fr fa1 o82 (by omega)
  have fa2 := gRow_fr fa2 o82 (by omega)
  have hO := gOut_tr hO (gOut_wd o82 (by omega))
  refine gx_hs (hs' := (a + 21)) (cells' := 20) (slots' := 409) (by omega) (by omega) (by omega) ?_
  refine gx_putFG C fd_X7_init_42 tyX7_ok nmX7 rfl rfl rfl rfl rfl (hG := ho) (hl := by exact Nat.le_of_ble_eq_true rfl) dX7_init_85 (fun G85 n85 o85 => ?_)
  have ho : G85 a = some (.inr (6, [.ref (a + 1), .ref (a + 3), .ref (a + 4), .ref (a + 13), .ref (a + 15), .ref (a + 17), .ref (a + 19), .int 0, .int 0])) := n85
  have ftx := gRow_fr ftx o85 (by omega)
  have far := gC1_fr far o85 (by omega)
  have fli := gList_fr fli o85 (by omega)
  have fa0 := gRow_fr fa0 o85 (by omega)
  have fa1 := gRow_fr fa1 o85 (by omega)
  have fa2 := gRow_fr fa2 o85 (by omega)
  have fa3 := gRow_fr fa3 o85 (by omega)
  have hO := gOut_tr hO (gOut_wd o85 (by omega))
  refine gx_iconst (v := nI 0) C dX7_init_88 (by decide) ?_
  refine gx_istore_n C dX7_init_89 (by decide) ?_
  exact hloop 9 0 _ (by omega) (by omega) ⟨ho, ftx, fli, fa0, fa1, fa2, fa3, ⟨_, far, fun i hi => absurd hi (Nat.not_lt_zero _)⟩, fun i hi => absurd hi (Nat.not_lt_zero _), hO⟩
set_option maxHeartbeats 600000 in
set_option maxRecDepth 100000 in
theorem k0_init (l : Launch) (D : gD) (A : Nat → Prop) {G : gH} {a : Nat} (hA : ∀ q, a + 1 ≤ q → A q) (ho : G a = some (.inr (0, [.null, .int 0]))) : gM l yX0_init wsX0_init (gRc 4 181 2092) D A (a + 1) 181 2092 [.ref a] G (gPv fun G' => gHist D G' a [] ∧ gOut a 182 G G') := by
  refine gM_intro (by decide) rfl rfl (Nat.le_of_ble_eq_true rfl) ?_
  intro p e s m args below meth c C
  have hloop : ∀ (n j : Nat) (G1 : gH), 4 < j + n → j ≤ 4 → G1 a = some (.inr (0, [.ref (a + 1), .int 0])) ∧ (∃ f : Nat → Option Nat, G1 (a + 1) = some (.inl (D.1.1 102, 4, .inr (.inr (.inr (.inr f))))) ∧ ∀ i : Nat, i < j → f i = some (a + 2 + 45 * i)) ∧ (∀ i : Nat, i < j → gSv D G1 (a + 2 + 45 * i) v0) ∧ gOut a 182 G G1 → gX p l e (gRc 4 181 2092) s m args below meth c D A 2 (a + 2 + 45 * j) (1 + 45 * j) (4 + 522 * j) (MQ below (gQ D A (a + 1) 181 (gPv fun G' => gHist D G' a [] ∧ gOut a 182 G G')) args s 181 2092 A) G1 [some (.ref a), some (.int (nI j))] 14 [] := by
    intro n
    induction n with
    | zero => intro j G1 hm hj0 hI; exact absurd hm (by omega)
    | succ n ih =>
      intro j G1 hm hj0 hI
      obtain ⟨ho, ⟨f, far, hf⟩, hsh, hO⟩ := hI
      refine gx_iload_n C dX0_init_14 rfl ?_
      refine gx_aload_n C dX0_init_15 rfl ?_
      refine gx_get C fd_X0_init_11 (hG := ho) (hv := by rfl) dX0_init_16 ?_
      refine gx_alen (t0 := 2) (v := nI 4) C (hG := far) (ht := by rfl) (hv := by rfl) dX0_init_19 ?_
      refine gx_icmp_ge (tgt := 42) C dX0_init_20 (by decide) (fun c_20 => ?_) (fun c_20 => ?_)
      · have hj : ¬ j < 4 := fun q => nI_ge q (by omega) c_20
        obtain rfl : j = 4 := by omega
        refine gx_hs (hs' := a + 1 + 181) (cells' := 181) (slots' := 2092) (by omega) rfl rfl ?_
        refine gx_vret (mc := 181) C ?_ dX0_init_42
        exact ⟨rfl, ⟨fun i => a + 2 + 45 * i, ho, ⟨f, far, hf⟩, Nat.zero_le _, ⟨fun i hi => ⟨i, hi, rfl⟩, fun i k hi hk q => by have q : a + 2 + 45 * i = a + 2 + 45 * k := q; omega⟩, fun i hi => ⟨v0, hsh i hi, fun q => absurd q (Nat.not_lt_zero _)⟩⟩, hO⟩
      · have hj : j < 4 := by
          rcases Nat.lt_or_ge (j) (4) with q | q
          · exact q
          · exact absurd (nI_le q (by omega)) c_20
        refine gx_aload_n C dX0_init_23 rfl ?_
        refine gx_get C fd_X0_init_11 (hG := ho) (hv := by rfl) dX0_init_24 ?_
        refine gx_iload_n C dX0_init_27 rfl ?_
        refine gx_newG (ci := 6) (T := TX7) (N := 9) (fs := [.null, .null, .null, .null, .null, .null, .null, .int 0, .int 0]) C in_X0_init_X7 rfl tyX7_ok mm_X0_init_cl9 mm_X0_init_itX7 mm_X0_init_iniX7 hA df_X7 (by show 1 + 45 * j + 1 ≤ 181; omega) (by show 4 + 522 * j + 9 ≤ 2092; omega) dX0_init_28 (fun G28 n28 o28 => ?_)
        have ho := (o28 a (by omega)).trans ho
        have far := gC1_fr far o28 (by omega)
        have hO := gOut_tr hO (gOut_wd o28 (by omega))
        refine gx_hs (hs' := (a + 2 + 45 * j + 1)) (cells' := 1 + 45 * j + 1) (slots' := 4 + 522 * j + 9) (by omega) (by omega) (by omega) ?_
        have hsh := fun (i : Nat) (hi : i < j) => gSv_fr (hsh i hi) o28 (by omega)
        refine gx_dup C dX0_init_31 rfl ?_
        refine gx_callI C (k7_init l D A (fun q hq => hA q (by omega)) n28) cb_X0_init__X7_init gX0_init_X7_init mm_X0_init_ml17 mm_X0_init_iniX7 mm_X0_init_imX7_init rfl rfl rfl (Nat.le_of_ble_eq_true rfl) ⟨(by show 1 + 45 * j + 1 + 44 ≤ 181; omega), (by show 4 + 522 * j + 9 + 513 ≤ 2092; omega)⟩ dX0_init_32 (gx_kv fun G32 h32 => ?_)
        obtain ⟨fsh, o32⟩ := h32
        have ho := (o32 a (by omega)).trans ho
        have far := gC1_fr far o32 (by omega)
        have hO := gOut_tr hO (gOut_wd o32 (by omega))
        refine gx_hs (hs' := (a + 2 + 45 * j + 45)) (cells' := 1 + 45 * j + 45) (slots' := 4 + 522 * j + 522) (by omega) (by omega) (by omega) ?_
        have hsh := fun (i : Nat) (hi : i < j) => gSv_fr (hsh i hi) o32 (by omega)
        refine gx_aastG (t0 := 2) (r := (RX7, TX7, 9)) (ck := 6) C (hG := far) (ht := by rfl) (hv := fsh.1) (hc := by rfl) (hi := hj) (hn := by omega) dX0_init_35 (fun G35 n35 o35 => ?_)
        have ho := (o35 a (by omega)).trans ho
        have hO := gOut_tr hO (gOut_wd o35 (by omega))
        have hsh := fun (i : Nat) (hi : i < j) => gSv_fr (hsh i hi) o35 (by omega)
        have fsh := gSv_fr fsh o35 (by omega)
        refine gx_iincN C dX0_init_36 rfl (by decide) ?_
        refine gx_goto (tgt := 14) C dX0_init_39 (by decide) ?_
        refine gx_hs (hs' := a + 2 + 45 * (j + 1)) (cells' := 1 + 45 * (j + 1)) (slots' := 4 + 522 * (j + 1)) (by omega) (by omega) (by omega) ?_
        refine ih (j + 1) _ (by omega) (by omega) ⟨ho, ⟨_, n35, fun i hi => ?_⟩, fun i hi => ?_, hO⟩
        · rw [vup_s]
          by_cases q : i = j
          · rw [if_pos q, q]
          · rw [if_neg q]
            exact hf i (by omega)
        · by_cases q : i = j
          · rw [q]
            exact fsh
          · exact hsh i (by omega)
  have hO : gOut a 182 G G := gOut_rf
  refine gx_aload_n C dX0_init_0 rfl ?_
  refine gx_objInit C mm_X0_init_oi1 mm_X0_init_oi2 mm_X0_init_oi3 (Nat.le_of_ble_eq_true rfl) (Nat.le_of_ble_eq_true rfl) dX0_init_1 ?_
  refine gx_aload_n C dX0_init_4 rfl ?_
  refine gx_iconst (v := nI 4) C dX0_init_5 (by decide) ?_
  refine gx_newqG (t0 := 2) (n := 4) C rfl mm_X0_init_cl9 (fun _ _ h => h.2.2.2.2.2) hA (by decide) (by decide) (by omega) (by decide) (by decide) dX0_init_6 (fun G6 n6 o6 => ?_)
  have ho := (o6 a (by omega)).trans ho
  have hO := gOut_tr hO (gOut_wd o6 (by omega))
  have far := n6
  refine gx_hs (hs' := (a + 2)) (cells' := 1) (slots' := 4) (by omega) (by omega) (by omega) ?_
  refine gx_putFG C fd_X0_init_11 tyX0_ok nmX0 rfl rfl rfl rfl rfl (hG := ho) (hl := by exact Nat.le_of_ble_eq_true rfl) dX0_init_9 (fun G9 n9 o9 => ?_)
  have ho : G9 a = some (.inr (0, [.ref (a + 1), .int 0])) := n9
  have far := gC1_fr far o9 (by omega)
  have hO := gOut_tr hO (gOut_wd o9 (by omega))
  refine gx_iconst (v := nI 0) C dX0_init_12 (by decide) ?_
  refine gx_istore_n C dX0_init_13 (by decide) ?_
  exact hloop 5 0 _ (by omega) (by omega) ⟨ho, ⟨_, far, fun i hi => absurd hi (Nat.not_lt_zero _)⟩, fun i hi => absurd hi (Nat.not_lt_zero _), hO⟩
set_option maxHeartbeats 600000 in
set_option maxRecDepth 100000 in
theorem k8_init (l : Launch) (D : gD) (A : Nat → Prop) {G : gH} {a : Nat} (hA : ∀ q, a + 1 ≤ q → A q) (ho : G a = some (.inr (7, [.null, .null, .null, .null]))) : gM l yX8_init wsX8_init (gRc 5 241 3154) D A (a + 1) 241 3154 [.ref a] G (gPv fun G' => gCw D G' a (v0, [], []) ∧ gOut a 242 G G') := by
  refine gM_intro (by decide) rfl rfl (Nat.le_of_ble_eq_true rfl) ?_
  intro p e s m args below meth c C
  have hO : gOut a 242 G G := gOut_rf
  refine gx_aload_n C dX8_init_0 rfl ?_
  refine gx_objInit C mm_X8_init_oi1 mm_X8_init_oi2 mm_X8_init_oi3 (Nat.le_of_ble_eq_true rfl) (Nat.le_of_ble_eq_true rfl) dX8_init_1 ?_
  refine gx_aload_n C dX8_init_4 rfl ?_
  refine gx_newG (ci := 6) (T := TX7) (N := 9) (fs := [.null, .null, .null, .null, .null, .null, .null, .int 0, .int 0]) C in_X8_init_X7 rfl tyX7_ok mm_X8_init_cl9 mm_X8_init_itX7 mm_X8_init_iniX7 hA df_X7 (by decide) (by decide) dX8_init_5 (fun G5 n5 o5 => ?_)
  have ho := (o5 a (by omega)).trans ho
  have hO := gOut_tr hO (gOut_wd o5 (by omega))
  refine gx_hs (hs' := (a + 2)) (cells' := 1) (slots' := 9) (by omega) (by omega) (by omega) ?_
  refine gx_dup C dX8_init_8 rfl ?_
  refine gx_callI C (k7_init l D A (fun q hq => hA q (by omega)) n5) cb_X8_init__X7_init gX8_init_X7_init mm_X8_init_ml11 mm_X8_init_iniX7 mm_X8_init_imX7_init rfl rfl rfl (Nat.le_of_ble_eq_true rfl) ⟨(by decide), (by decide)⟩ dX8_init_9 (gx_kv fun G9 h9 => ?_)
  obtain ⟨fnow, o9⟩ := h9
  have ho := (o9 a (by omega)).trans ho
  have hO := gOut_tr hO (gOut_wd o9 (by omega))
  refine gx_hs (hs' := (a + 46)) (cells' := 45) (slots' := 522) (by omega) (by omega) (by omega) ?_
  refine gx_putFG C fd_X8_init_12 tyX8_ok nmX8 rfl rfl rfl rfl rfl (hG := ho) (hl := by exact Nat.le_of_ble_eq_true rfl) dX8_init_12 (fun G12 n12 o12 => ?_)
  have ho : G12 a = some (.inr (7, [.ref (a + 1), .null, .null, .null])) := n12
  have fnow := gSv_fr fnow o12 (by omega)
  have hO := gOut_tr hO (gOut_wd o12 (by omega))
  refine gx_aload_n C dX8_init_15 rfl ?_
  refine gx_newG (ci := 0) (T := TX0) (N := 2) (fs := [.null, .int 0]) C in_X8_init_X0 rfl tyX0_ok mm_X8_init_cl16 mm_X8_init_itX0 mm_X8_init_iniX0 hA df_X0 (by decide) (by decide) dX8_init_16 (fun G16 n16 o16 => ?_)
  have ho := (o16 a (by omega)).trans ho
  have fnow := gSv_fr fnow o16 (by omega)
  have hO := gOut_tr hO (gOut_wd o16 (by omega))
  refine gx_hs (hs' := (a + 47)) (cells' := 46) (slots' := 524) (by omega) (by omega) (by omega) ?_
  refine gx_dup C dX8_init_19 rfl ?_
  refine gx_callI C (k0_init l D A (fun q hq => hA q (by omega)) n16) cb_X8_init__X0_init gX8_init_X0_init mm_X8_init_ml18 mm_X8_init_iniX0 mm_X8_init_imX0_init rfl rfl rfl (Nat.le_of_ble_eq_true rfl) ⟨(by decide), (by decide)⟩ dX8_init_20 (gx_kv fun G20 h20 => ?_)
  obtain ⟨fhi, o20⟩ := h20
  have ho := (o20 a (by omega)).trans ho
  have fnow := gSv_fr fnow o20 (by omega)
  have hO := gOut_tr hO (gOut_wd o20 (by omega))
  refine gx_hs (hs' := (a + 228)) (cells' := 227) (slots' := 2616) (by omega) (by omega) (by omega) ?_
  refine gx_putFG C fd_X8_init_19 tyX8_ok nmX8 rfl rfl rfl rfl rfl (hG := ho) (hl := by exact Nat.le_of_ble_eq_true rfl) dX8_init_23 (fun G23 n23 o23 => ?_)
  have ho : G23 a = some (.inr (7, [.ref (a + 1), .ref (a + 46), .null, .null])) := n23
  have fnow := gSv_fr fnow o23 (by omega)
  have fhi := gHist_fr fhi o23 (by omega)
  have hO := gOut_tr hO (gOut_wd o23 (by omega))
  refine gx_aload_n C dX8_init_26 rfl ?_
  refine gx_newG (ci := 2) (T := TX3) (N := 5) (fs := [.null, .null, .int 0, .int 0, .int 0]) C in_X8_init_X3 rfl tyX3_ok mm_X8_init_cl23 mm_X8_init_itX3 mm_X8_init_iniX3 hA df_X3 (by decide) (by decide) dX8_init_27 (fun G27 n27 o27 => ?_)
  have ho := (o27 a (by omega)).trans ho
  have fnow := gSv_fr fnow o27 (by omega)
  have fhi := gHist_fr fhi o27 (by omega)
  have hO := gOut_tr hO (gOut_wd o27 (by omega))
  refine gx_hs (hs' := (a + 229)) (cells' := 228) (slots' := 2621) (by omega) (by omega) (by omega) ?_
  refine gx_dup C dX8_init_30 rfl ?_
  refine gx_callIN C (k3_init l D A (fun q hq => hA q (by omega)) n27) cb_X8_init__X3_init gX8_init_X3_init_n25 (by decide +kernel) mm_X8_init_iniX3 mm_X8_init_imX3_init rfl rfl rfl (Nat.le_of_ble_eq_true rfl) ⟨(by decide), (by decide)⟩ dX8_init_31 (gx_kv fun G31 h31 => ?_)
  obtain ⟨fmt, o31⟩ := h31
  have ho := (o31 a (by omega)).trans ho
  have fnow := gSv_fr fnow o31 (by omega)
  have fhi := gHist_fr fhi o31 (by omega)
  have hO := gOut_tr hO (gOut_wd o31 (by omega))
  refine gx_hs (hs' := (a + 233)) (cells' := 232) (slots' := 2713) (by omega) (by omega) (by omega) ?_
  refine gx_putFG C fd_X8_init_26 tyX8_ok nmX8 rfl rfl rfl rfl rfl (hG := ho) (hl := by exact Nat.le_of_ble_eq_true rfl) dX8_init_34 (fun G34 n34 o34 => ?_)
  have ho : G34 a = some (.inr (7, [.ref (a + 1), .ref (a + 46), .ref (a + 228), .null])) := n34
  have fnow := gSv_fr fnow o34 (by omega)
  have fhi := gHist_fr fhi o34 (by omega)
  have fmt := gMt_fr fmt o34 (by omega)
  have hO := gOut_tr hO (gOut_wd o34 (by omega))
  refine gx_aload_n C dX8_init_37 rfl ?_
  refine gx_newG (ci := 3) (T := TX4) (N := 4) (fs := [.null, .null, .null, .null]) C in_X8_init_X4 rfl tyX4_ok mm_X8_init_cl30 mm_X8_init_itX4 mm_X8_init_iniX4 hA df_X4 (by decide) (by decide) dX8_init_38 (fun G38 n38 o38 => ?_)
  have ho := (o38 a (by omega)).trans ho
  have fnow := gSv_fr fnow o38 (by omega)
  have fhi := gHist_fr fhi o38 (by omega)
  have fmt := gMt_fr fmt o38 (by omega)
  have hO := gOut_tr hO (gOut_wd o38 (by omega))
  refine gx_hs (hs' := (a + 234)) (cells' := 233) (slots' := 2717) (by omega) (by omega) (by omega) ?_
  refine gx_dup C dX8_init_41 rfl ?_
  refine gx_callIN C (k4_init l D A (fun q hq => hA q (by omega)) n38) cb_X8_init__X4_init gX8_init_X4_init_n32 (by decide +kernel) mm_X8_init_iniX4 mm_X8_init_imX4_init rfl rfl rfl (Nat.le_of_ble_eq_true rfl) ⟨(by decide), (by decide)⟩ dX8_init_42 (gx_kv fun G42 h42 => ?_)
  obtain ⟨fps, o42⟩ := h42
  have ho := (o42 a (by omega)).trans ho
  have fnow := gSv_fr fnow o42 (by omega)
  have fhi := gHist_fr fhi o42 (by omega)
  have fmt := gMt_fr fmt o42 (by omega)
  have hO := gOut_tr hO (gOut_wd o42 (by omega))
  refine gx_hs (hs' := (a + 242)) (cells' := 241) (slots' := 3154) (by omega) (by omega) (by omega) ?_
  refine gx_putFG C fd_X8_init_33 tyX8_ok nmX8 rfl rfl rfl rfl rfl (hG := ho) (hl := by exact Nat.le_of_ble_eq_true rfl) dX8_init_45 (fun G45 n45 o45 => ?_)
  have ho : G45 a = some (.inr (7, [.ref (a + 1), .ref (a + 46), .ref (a + 228), .ref (a + 233)])) := n45
  have fnow := gSv_fr fnow o45 (by omega)
  have fhi := gHist_fr fhi o45 (by omega)
  have fmt := gMt_fr fmt o45 (by omega)
  have fps := gPs_fr fps o45 (by omega)
  have hO := gOut_tr hO (gOut_wd o45 (by omega))
  refine gx_hs (hs' := a + 1 + 241) (cells' := 241) (slots' := 3154) (by omega) rfl rfl ?_
  refine gx_vret (mc := 241) C ?_ dX8_init_48
  exact ⟨rfl, ⟨ho, fnow, fhi, ⟨_, _, _, _, fmt⟩, ⟨_, fps⟩⟩, hO⟩
theorem sR_0 : sR (fun _ => 0) v0 := by
  refine ⟨⟨rfl, Nat.zero_le _, fun i hi => absurd hi (Nat.not_lt_zero _)⟩, rfl, ⟨rfl, Nat.zero_le _, fun i hi => absurd hi (Nat.not_lt_zero _)⟩, ⟨rfl, Nat.zero_le _, rfl, rfl, rfl, List.nodup_nil, fun k hk => absurd hk (Nat.not_lt_zero _)⟩, ⟨rfl, rfl, rfl, rfl, fun k hk => ?_, fun r hr => ?_⟩, fun i j hi => absurd hi (Nat.not_lt_zero _), Nat.zero_le _⟩
  · rcases (show k = 0 ∨ k = 1 ∨ k = 2 ∨ k = 3 ∨ k = 4 by omega) with rfl | rfl | rfl | rfl | rfl <;> rfl
  · rcases (show r = 0 ∨ r = 1 ∨ r = 2 ∨ r = 3 ∨ r = 4 ∨ r = 5 by omega) with rfl | rfl | rfl | rfl | rfl | rfl <;> exact ⟨rfl, rfl, rfl⟩
set_option maxHeartbeats 600000 in
set_option maxRecDepth 100000 in
theorem k9_init (l : Launch) (D : gD) (A : Nat → Prop) {G : gH} {a : Nat} (hA : ∀ q, a + 1 ≤ q → A q) (ho : G a = some (.inr (8, [.null, .null, .int 0, .null, .int 0, .null, .int 0, .int 0, .int 0, .null, .int 0]))) : gM l yX9_init wsX9_init (gRc 1 5 4561) D A (a + 1) 5 4561 [.ref a] G (gPv fun G' => gMw D G G' a (v0, [], [])) := by
  refine gM_intro (by decide) rfl rfl (Nat.le_of_ble_eq_true rfl) ?_
  intro p e s m args below meth c C
  have hO : gOut a 6 G G := gOut_rf
  refine gx_aload_n C dX9_init_0 rfl ?_
  refine gx_objInit C mm_X9_init_oi1 mm_X9_init_oi2 mm_X9_init_oi3 (Nat.le_of_ble_eq_true rfl) (Nat.le_of_ble_eq_true rfl) dX9_init_1 ?_
  refine gx_aload_n C dX9_init_4 rfl ?_
  refine gx_sipush (v := nI 855) C dX9_init_5 (by decide) ?_
  refine gx_newaG (n := 855) C mm_X9_init_ac hA (by decide) (by decide) (by omega) (by decide) (by decide) dX9_init_8 (fun G8 n8 o8 => ?_)
  have ho := (o8 a (by omega)).trans ho
  have hO := gOut_tr hO (gOut_wd o8 (by omega))
  have fa0 := n8
  refine gx_hs (hs' := (a + 2)) (cells' := 1) (slots' := 855) (by omega) (by omega) (by omega) ?_
  refine gx_putFG C fd_X9_init_7 tyX9_ok nmX9 rfl rfl rfl rfl rfl (hG := ho) (hl := by exact Nat.le_of_ble_eq_true rfl) dX9_init_10 (fun G10 n10 o10 => ?_)
  have ho : G10 a = some (.inr (8, [.ref (a + 1), .null, .int 0, .null, .int 0, .null, .int 0, .int 0, .int 0, .null, .int 0])) := n10
  have fa0 := gC1_fr fa0 o10 (by omega)
  have hO := gOut_tr hO (gOut_wd o10 (by omega))
  refine gx_aload_n C dX9_init_13 rfl ?_
  refine gx_sipush (v := nI 3420) C dX9_init_14 (by decide) ?_
  refine gx_newaG (n := 3420) C mm_X9_init_ac hA (by decide) (by decide) (by omega) (by decide) (by decide) dX9_init_17 (fun G17 n17 o17 => ?_)
  have ho := (o17 a (by omega)).trans ho
  have fa0 := gC1_fr fa0 o17 (by omega)
  have hO := gOut_tr hO (gOut_wd o17 (by omega))
  have fa1 := n17
  refine gx_hs (hs' := (a + 3)) (cells' := 2) (slots' := 4275) (by omega) (by omega) (by omega) ?_
  refine gx_putFG C fd_X9_init_13 tyX9_ok nmX9 rfl rfl rfl rfl rfl (hG := ho) (hl := by exact Nat.le_of_ble_eq_true rfl) dX9_init_19 (fun G19 n19 o19 => ?_)
  have ho : G19 a = some (.inr (8, [.ref (a + 1), .ref (a + 2), .int 0, .null, .int 0, .null, .int 0, .int 0, .int 0, .null, .int 0])) := n19
  have fa0 := gC1_fr fa0 o19 (by omega)
  have fa1 := gC1_fr fa1 o19 (by omega)
  have hO := gOut_tr hO (gOut_wd o19 (by omega))
  refine gx_aload_n C dX9_init_22 rfl ?_
  refine gx_bipush (v := nI 80) C dX9_init_23 (by decide) ?_
  refine gx_newaG (n := 80) C mm_X9_init_ac hA (by decide) (by decide) (by omega) (by decide) (by decide) dX9_init_25 (fun G25 n25 o25 => ?_)
  have ho := (o25 a (by omega)).trans ho
  have fa0 := gC1_fr fa0 o25 (by omega)
  have fa1 := gC1_fr fa1 o25 (by omega)
  have hO := gOut_tr hO (gOut_wd o25 (by omega))
  have fa2 := n25
  refine gx_hs (hs' := (a + 4)) (cells' := 3) (slots' := 4355) (by omega) (by omega) (by omega) ?_
  refine gx_putFG C fd_X9_init_16 tyX9_ok nmX9 rfl rfl rfl rfl rfl (hG := ho) (hl := by exact Nat.le_of_ble_eq_true rfl) dX9_init_27 (fun G27 n27 o27 => ?_)
  have ho : G27 a = some (.inr (8, [.ref (a + 1), .ref (a + 2), .int 0, .ref (a + 3), .int 0, .null, .int 0, .int 0, .int 0, .null, .int 0])) := n27
  have fa0 := gC1_fr fa0 o27 (by omega)
  have fa1 := gC1_fr fa1 o27 (by omega)
  have fa2 := gC1_fr fa2 o27 (by omega)
  have hO := gOut_tr hO (gOut_wd o27 (by omega))
  refine gx_aload_n C dX9_init_30 rfl ?_
  refine gx_sipush (v := nI 170) C dX9_init_31 (by decide) ?_
  refine gx_newaG (n := 170) C mm_X9_init_ac hA (by decide) (by decide) (by omega) (by decide) (by decide) dX9_init_34 (fun G34 n34 o34 => ?_)
  have ho := (o34 a (by omega)).trans ho
  have fa0 := gC1_fr fa0 o34 (by omega)
  have fa1 := gC1_fr fa1 o34 (by omega)
  have fa2 := gC1_fr fa2 o34 (by omega)
  have hO := gOut_tr hO (gOut_wd o34 (by omega))
  have fa3 := n34
  refine gx_hs (hs' := (a + 5)) (cells' := 4) (slots' := 4525) (by omega) (by omega) (by omega) ?_
  refine gx_putFG C fd_X9_init_19 tyX9_ok nmX9 rfl rfl rfl rfl rfl (hG := ho) (hl := by exact Nat.le_of_ble_eq_true rfl) dX9_init_36 (fun G36 n36 o36 => ?_)
  have ho : G36 a = some (.inr (8, [.ref (a + 1), .ref (a + 2), .int 0, .ref (a + 3), .int 0, .ref (a + 4), .int 0, .int 0, .int 0, .null, .int 0])) := n36
  have fa0 := gC1_fr fa0 o36 (by omega)
  have fa1 := gC1_fr fa1 o36 (by omega)
  have fa2 := gC1_fr fa2 o36 (by omega)
  have fa3 := gC1_fr fa3 o36 (by omega)
  have hO := gOut_tr hO (gOut_wd o36 (by omega))
  refine gx_aload_n C dX9_init_39 rfl ?_
  refine gx_bipush (v := nI 36) C dX9_init_40 (by decide) ?_
  refine gx_newaG (n := 36) C mm_X9_init_ac hA (by decide) (by decide) (by omega) (by decide) (by decide) dX9_init_42 (fun G42 n42 o42 => ?_)
  have ho := (o42 a (by omega)).trans ho
  have fa0 := gC1_fr fa0 o42 (by omega)
  have fa1 := gC1_fr fa1 o42 (by omega)
  have fa2 := gC1_fr fa2 o42 (by omega)
  have fa3 := gC1_fr fa3 o42 (by omega)
  have hO := gOut_tr hO (gOut_wd o42 (by omega))
  have fa4 := n42
  refine gx_hs (hs' := (a + 6)) (cells' := 5) (slots' := 4561) (by omega) (by omega) (by omega) ?_
  refine gx_putFG C fd_X9_init_22 tyX9_ok nmX9 rfl rfl rfl rfl rfl (hG := ho) (hl := by exact Nat.le_of_ble_eq_true rfl) dX9_init_44 (fun G44 n44 o44 => ?_)
  have ho : G44 a = some (.inr (8, [.ref (a + 1), .ref (a + 2), .int 0, .ref (a + 3), .int 0, .ref (a + 4), .int 0, .int 0, .int 0, .ref (a + 5), .int 0])) := n44
  have fa0 := gC1_fr fa0 o44 (by omega)
  have fa1 := gC1_fr fa1 o44 (by omega)
  have fa2 := gC1_fr fa2 o44 (by omega)
  have fa3 := gC1_fr fa3 o44 (by omega)
  have fa4 := gC1_fr fa4 o44 (by omega)
  have hO := gOut_tr hO (gOut_wd o44 (by omega))
  refine gx_hs (hs' := a + 1 + 5) (cells' := 5) (slots' := 4561) (by omega) rfl rfl ?_
  refine gx_vret (mc := 5) C ?_ dX9_init_47
  exact ⟨rfl, fun _ => 0, fun _ => 0, fun _ => 0, fun _ => 0, fun _ => 0, (0, 0, 0, 0), ⟨hO, ho, fa0, fa1, fa2, fa3, fa4⟩, sR_0, ⟨Nat.zero_le _, fun i hi => absurd hi (Nat.not_lt_zero _)⟩, ⟨Nat.zero_le _, fun i hi => absurd hi (Nat.not_lt_zero _)⟩⟩
