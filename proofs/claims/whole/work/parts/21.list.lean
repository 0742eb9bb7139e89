/-! THE LIST OF MARKS -/
def pOppN (cs : List Int32) (c : Int32) (n : Nat) : Nat := (List.range n).countP (fun i => decide (¬ pOpp c (cs.getD i 0) = 0))
def pOpenN (as : List Int32) (n : Nat) : Nat := (List.range n).countP (fun i => decide (as.getD i 0 = 0))
def pPairS (cs : List Int32) (m : Nat) : Nat → Nat
  | 0 => 0
  | n + 1 => pPairS cs m n + pOppN cs (cs.getD n 0) m
def pHit (cs as : List Int32) (c : Int32) (i : Nat) : Bool := decide (as.getD i 0 = 1) && decide (¬ pOpp c (cs.getD i 0) = 0)
def pMeets (cs as : List Int32) (c : Int32) : Bool := (List.range cs.length).any (pHit cs as c)
def pListN (cs ms : List Int32) (n : Nat) : Nat := (List.range n).countP (fun i => decide (ms.getD i 0 ∈ cs))
def pMeetN (cs as ms : List Int32) (n : Nat) : Nat := (List.range n).countP (fun i => pMeets cs as (ms.getD i 0))
def pMore (cs ns : List Int32) (i j : Int32) : Bool := if lget ns i = lget ns j then decide (pFirst (lget cs i) < pFirst (lget cs j)) else decide (lget ns j < lget ns i)
def pBest (cs as ns : List Int32) : Nat → Option Nat
  | 0 => none
  | n + 1 => if as.getD n 0 = 0 then (match pBest cs as ns n with
      | none => some n
      | some b => if pMore cs ns (nI n) (nI b) then some n else some b) else pBest cs as ns n
def pBI (d : Int32) (o : Option Nat) : Int32 := match o with
  | none => d
  | some b => nI b
theorem pBest_lt {cs as ns : List Int32} : ∀ {n b : Nat}, pBest cs as ns n = some b → b < n := by
  intro n
  induction n with
  | zero => intro b h; cases h
  | succ n ih =>
    intro b h
    rw [pBest] at h
    split at h
    · split at h
      · cases h; omega
      · rename_i b2 hb
        split at h
        · cases h; omega
        · cases h; have := ih hb; omega
    · have := ih h; omega
theorem pBest_s {cs as ns : List Int32} {d : Int32} (hd : d < 0) {j : Nat} (hj : j < 2 ^ 31) : pBI d (pBest cs as ns (j + 1)) = if as.getD j 0 = 0 then (if pBI d (pBest cs as ns j) < 0 ∨ pMore cs ns (nI j) (pBI d (pBest cs as ns j)) = true then nI j else pBI d (pBest cs as ns j)) else pBI d (pBest cs as ns j) := by
  rw [pBest]
  by_cases h : as.getD j 0 = 0
  · rw [if_pos h, if_pos h]
    cases hb : pBest cs as ns j with
    | none =>
      rw [if_pos (Or.inl (show pBI d none < 0 from hd))]
      rfl
    | some b =>
      have hbj := pBest_lt hb
      show pBI d (if pMore cs ns (nI j) (nI b) = true then some j else some b) = if nI b < 0 ∨ pMore cs ns (nI j) (nI b) = true then nI j else nI b
      by_cases q : pMore cs ns (nI j) (nI b) = true
      · rw [if_pos q, if_pos (Or.inr q)]
        rfl
      · rw [if_neg q, if_neg (fun z => z.elim (nI_pos (by omega)) q)]
        rfl
  · rw [if_neg h, if_neg h]
theorem pC_s {f : Nat → Bool} {n : Nat} (h : f n = true) : (List.range n).countP f + 1 = (List.range (n + 1)).countP f := by
  rw [List.range_succ, List.countP_append, List.countP_singleton, if_pos h]
theorem pC_n {f : Nat → Bool} {n : Nat} (h : ¬ f n = true) : (List.range n).countP f = (List.range (n + 1)).countP f := by
  rw [List.range_succ, List.countP_append, List.countP_singleton, if_neg h]
  rfl
theorem pAny_f {f : Nat → Bool} {n : Nat} (h : ∀ a, a < n → ¬ f a = true) : (List.range n).any f = false := by
  rw [List.any_eq_false]
  intro x hx
  exact h x (List.mem_range.mp hx)
theorem pAny_t {f : Nat → Bool} {n a : Nat} (ha : a < n) (h : f a = true) : (List.range n).any f = true := List.any_eq_true.mpr ⟨a, List.mem_range.mpr ha, h⟩
theorem lidx_in {cs : List Int32} {v : Int32} (hb : cs.length < 1000) : lidx cs v < 0 ↔ ¬ v ∈ cs := by
  unfold lidx
  by_cases h : v ∈ cs
  · rw [if_pos h]
    have := List.idxOf_lt_length_iff.mpr h
    exact ⟨fun q => absurd q (nI_pos (by omega)), fun q => absurd h q⟩
  · rw [if_neg h]
    exact ⟨fun _ => h, fun _ => by decide⟩
section GMN
variable {p : Program} {l : Launch} {e : Env} {R : Room} {s : State} {m : MethodId} {args : Array Value} {below : List Frame} {meth : Method} {c : Code} {cc : ByteArray} {ret : Option FieldType} {Ts : List Cond} {own nm : String} {D : gD} {A : Nat → Prop} {nL hs0 hs cells slots : Nat} {Q : State → Prop} {G : gH} {V : List (Option Value)} {pc index : Nat} {rest : List Value}
theorem gx_min (C : gC p s m args meth c cc ret Ts own nm D A nL hs0) (h1 : Cond.methodLink own index Lib.Math.min.name ∈ Ts) (h2 : Cond.static Lib.Math.min.name ∈ Ts) (h3 : Cond.initialized "java/lang/Math" ∈ Ts) (h4 : Cond.code Lib.Math.min.name Lib.Math.min.code 2 (some .int) ∈ Ts) (hf : 1 ≤ R.frames) (hr : (rest.map fun v => v.category).sum + 13 ≤ R.locals) (hcl : cells ≤ R.cells) (hsl : slots ≤ R.slots) {x y : Int32} (hdg : decode cc pc = .ok (.invokestatic index, 3))
    (kk : gX p l e R s m args below meth c D A nL hs cells slots Q G V (pc + 3) (.int (if y < x then y else x) :: rest)) : gX p l e R s m args below meth c D A nL hs cells slots Q G V pc (.int y :: .int x :: rest) :=
  fun H locs ls hP hS hz hL => va_mmin C.1 C.2.1 (C.2.2.2.2.2.2.1.trans hL.1.symm) C.2.2.2.2.1 (C.2.2.2.1 _ h1) (C.2.2.2.1 _ h2) (C.2.2.2.1 _ h3) (C.2.2.2.1 _ h4) hf hr hcl hsl hdg (kk H locs ls hP hS hz hL)
end GMN
theorem lcut_0 {xs : List Int32} : lcut xs 0 = [] := by
  unfold lcut
  rw [show (0 : Int32) = nI 0 from rfl, gIn_nI (by omega), nI_clamp (by omega)]
  by_cases h : 0 < xs.length
  · simp [h]
  · have : xs = [] := List.eq_nil_of_length_eq_zero (by omega)
    simp [this]
theorem pOut_in {i : Int32} {n : Nat} (hn : n < 1000) : pOut i 0 (nI n - 1) = (if gIn i n then 0 else 1) := by
  have e : (nI n - 1 : Int32).toInt = (n : Int) - 1 := by
    have := pk_sub_toInt (a := n) (b := 1) (by omega) (by omega)
    exact this
  unfold pOut gIn
  by_cases h : i < 0 ∨ nI n - 1 < i
  · rw [if_pos h, if_neg]
    rw [gz_lt0, Int32.lt_iff_toInt_lt, e] at h
    simp
    omega
  · rw [if_neg h, if_pos]
    rw [gz_lt0, Int32.lt_iff_toInt_lt, e] at h
    simp
    omega
def pMin (x y : Int32) : Int32 := if y < x then y else x
def pTake (v : ML) (z w : Int32) : ML := if z ∈ v.1 then (v.1, v.2.1, lset v.2.2.1 (lidx v.1 z) (lget v.2.2.1 (lidx v.1 z) + 1), lset v.2.2.2 (lidx v.1 z) (pMin (lget v.2.2.2 (lidx v.1 z)) w)) else (lapp 64 v.1 z, lapp 64 v.2.1 0, lapp 64 v.2.2.1 1, lapp 64 v.2.2.2 w)
set_option maxRecDepth 20000 in
theorem in_X2_empty_X2 : ∀ w ∈ wsX20, w ∈ wsX2_empty := by decide +kernel
set_option maxRecDepth 20000 in
theorem fd_X2_empty_14 : gFd wsX2_empty RX2 14 1 RX2 TX2 4 0 := ⟨in_X2_empty_X2, rfl, by decide, by decide +kernel⟩
theorem cb_X2_empty__X5_cutTo : gCb yX5_cutTo cX5_cutTo 2 none wsX5_cutTo (gR 0) (gR 1) 0 0 1 := ⟨rfl, rfl, rfl, by decide +kernel, by decide⟩
set_option maxRecDepth 20000 in
theorem fd_X2_empty_20 : gFd wsX2_empty RX2 20 1 RX2 TX2 4 1 := ⟨in_X2_empty_X2, rfl, by decide, by decide +kernel⟩
set_option maxRecDepth 20000 in
theorem fd_X2_empty_23 : gFd wsX2_empty RX2 23 1 RX2 TX2 4 2 := ⟨in_X2_empty_X2, rfl, by decide, by decide +kernel⟩
set_option maxRecDepth 20000 in
theorem fd_X2_empty_26 : gFd wsX2_empty RX2 26 1 RX2 TX2 4 3 := ⟨in_X2_empty_X2, rfl, by decide, by decide +kernel⟩
set_option maxRecDepth 20000 in
theorem in_X2_copyFrom_X2 : ∀ w ∈ wsX20, w ∈ wsX2_copyFrom := by decide +kernel
set_option maxRecDepth 20000 in
theorem fd_X2_copyFrom_14 : gFd wsX2_copyFrom RX2 14 1 RX2 TX2 4 0 := ⟨in_X2_copyFrom_X2, rfl, by decide, by decide +kernel⟩
theorem cb_X2_copyFrom__X5_copyFrom : gCb yX5_copyFrom cX5_copyFrom 3 none wsX5_copyFrom (gR 0) (gR 1) 0 0 1 := ⟨rfl, rfl, rfl, by decide +kernel, by decide⟩
set_option maxRecDepth 20000 in
theorem fd_X2_copyFrom_20 : gFd wsX2_copyFrom RX2 20 1 RX2 TX2 4 1 := ⟨in_X2_copyFrom_X2, rfl, by decide, by decide +kernel⟩
set_option maxRecDepth 20000 in
theorem fd_X2_copyFrom_23 : gFd wsX2_copyFrom RX2 23 1 RX2 TX2 4 2 := ⟨in_X2_copyFrom_X2, rfl, by decide, by decide +kernel⟩
set_option maxRecDepth 20000 in
theorem fd_X2_copyFrom_26 : gFd wsX2_copyFrom RX2 26 1 RX2 TX2 4 3 := ⟨in_X2_copyFrom_X2, rfl, by decide, by decide +kernel⟩
set_option maxRecDepth 20000 in
theorem in_X2_hasNot_X2 : ∀ w ∈ wsX20, w ∈ wsX2_hasNot := by decide +kernel
set_option maxRecDepth 20000 in
theorem fd_X2_hasNot_14 : gFd wsX2_hasNot RX2 14 1 RX2 TX2 4 0 := ⟨in_X2_hasNot_X2, rfl, by decide, by decide +kernel⟩
theorem cb_X2_hasNot__X5_used : gCb yX5_used cX5_used 1 (some .int) wsX5_used (gR 0) (gR 1) 0 0 0 := ⟨rfl, rfl, rfl, by decide +kernel, by decide⟩
theorem cb_X2_hasNot__X8_isOutside : gCb yX8_isOutside cX8_isOutside 3 (some .boolean) wsX8_isOutside (gR 0) (gR 1) 0 0 3 := ⟨rfl, rfl, rfl, by decide +kernel, by decide⟩
set_option maxRecDepth 20000 in
theorem mm_X2_hasNot_iniX8 : Cond.initialized RX8 ∈ wsX2_hasNot := by decide +kernel
set_option maxRecDepth 20000 in
theorem mm_X2_hasNot_stX8_isOutside : Cond.static yX8_isOutside ∈ wsX2_hasNot := by decide +kernel
set_option maxRecDepth 20000 in
theorem in_X2_howManyAreOpen_X2 : ∀ w ∈ wsX20, w ∈ wsX2_howManyAreOpen := by decide +kernel
set_option maxRecDepth 20000 in
theorem fd_X2_howManyAreOpen_20 : gFd wsX2_howManyAreOpen RX2 20 1 RX2 TX2 4 1 := ⟨in_X2_howManyAreOpen_X2, rfl, by decide, by decide +kernel⟩
theorem cb_X2_howManyAreOpen__X5_used : gCb yX5_used cX5_used 1 (some .int) wsX5_used (gR 0) (gR 2) 0 0 0 := ⟨rfl, rfl, rfl, by decide +kernel, by decide⟩
theorem cb_X2_howManyAreOpen__X5_get : gCb yX5_get cX5_get 2 (some .int) wsX5_get (gR 1) (gR 2) 0 0 1 := ⟨rfl, rfl, rfl, by decide +kernel, by decide⟩
set_option maxRecDepth 20000 in
theorem in_X2_howManyOppose_X2 : ∀ w ∈ wsX20, w ∈ wsX2_howManyOppose := by decide +kernel
set_option maxRecDepth 20000 in
theorem fd_X2_howManyOppose_14 : gFd wsX2_howManyOppose RX2 14 1 RX2 TX2 4 0 := ⟨in_X2_howManyOppose_X2, rfl, by decide, by decide +kernel⟩
theorem cb_X2_howManyOppose__X5_used : gCb yX5_used cX5_used 1 (some .int) wsX5_used (gR 0) (gR 3) 0 0 0 := ⟨rfl, rfl, rfl, by decide +kernel, by decide⟩
theorem cb_X2_howManyOppose__X5_get : gCb yX5_get cX5_get 2 (some .int) wsX5_get (gR 1) (gR 3) 0 0 1 := ⟨rfl, rfl, rfl, by decide +kernel, by decide⟩
theorem cb_X2_howManyOppose__X1_areOpposed : gCb yX1_areOpposed cX1_areOpposed 4 (some .boolean) wsX1_areOpposed (gR 2) (gR 3) 0 0 2 := ⟨rfl, rfl, rfl, by decide +kernel, by decide⟩
set_option maxRecDepth 20000 in
theorem in_X2_opposedPairs_X2 : ∀ w ∈ wsX20, w ∈ wsX2_opposedPairs := by decide +kernel
set_option maxRecDepth 20000 in
theorem fd_X2_opposedPairs_14 : gFd wsX2_opposedPairs RX2 14 1 RX2 TX2 4 0 := ⟨in_X2_opposedPairs_X2, rfl, by decide, by decide +kernel⟩
theorem cb_X2_opposedPairs__X5_used : gCb yX5_used cX5_used 1 (some .int) wsX5_used (gR 0) (gR 4) 0 0 0 := ⟨rfl, rfl, rfl, by decide +kernel, by decide⟩
theorem cb_X2_opposedPairs__X5_get : gCb yX5_get cX5_get 2 (some .int) wsX5_get (gR 1) (gR 4) 0 0 1 := ⟨rfl, rfl, rfl, by decide +kernel, by decide⟩
theorem cb_X2_opposedPairs__X2_howManyOppose : gCb yX2_howManyOppose cX2_howManyOppose 4 (some .int) wsX2_howManyOppose (gR 3) (gR 4) 0 0 1 := ⟨rfl, rfl, rfl, by decide +kernel, by decide⟩
set_option maxRecDepth 20000 in
theorem in_X2_meetsAnAccepted_X2 : ∀ w ∈ wsX20, w ∈ wsX2_meetsAnAccepted := by decide +kernel
set_option maxRecDepth 20000 in
theorem fd_X2_meetsAnAccepted_14 : gFd wsX2_meetsAnAccepted RX2 14 1 RX2 TX2 4 0 := ⟨in_X2_meetsAnAccepted_X2, rfl, by decide, by decide +kernel⟩
theorem cb_X2_meetsAnAccepted__X5_used : gCb yX5_used cX5_used 1 (some .int) wsX5_used (gR 0) (gR 3) 0 0 0 := ⟨rfl, rfl, rfl, by decide +kernel, by decide⟩
set_option maxRecDepth 20000 in
theorem fd_X2_meetsAnAccepted_20 : gFd wsX2_meetsAnAccepted RX2 20 1 RX2 TX2 4 1 := ⟨in_X2_meetsAnAccepted_X2, rfl, by decide, by decide +kernel⟩
theorem cb_X2_meetsAnAccepted__X5_get : gCb yX5_get cX5_get 2 (some .int) wsX5_get (gR 1) (gR 3) 0 0 1 := ⟨rfl, rfl, rfl, by decide +kernel, by decide⟩
theorem cb_X2_meetsAnAccepted__X1_areOpposed : gCb yX1_areOpposed cX1_areOpposed 4 (some .boolean) wsX1_areOpposed (gR 2) (gR 3) 0 0 2 := ⟨rfl, rfl, rfl, by decide +kernel, by decide⟩
set_option maxRecDepth 20000 in
theorem in_X2_canBeAccepted_X2 : ∀ w ∈ wsX20, w ∈ wsX2_canBeAccepted := by decide +kernel
set_option maxRecDepth 20000 in
theorem fd_X2_canBeAccepted_20 : gFd wsX2_canBeAccepted RX2 20 1 RX2 TX2 4 1 := ⟨in_X2_canBeAccepted_X2, rfl, by decide, by decide +kernel⟩
theorem cb_X2_canBeAccepted__X5_get : gCb yX5_get cX5_get 2 (some .int) wsX5_get (gR 1) (gR 4) 0 0 1 := ⟨rfl, rfl, rfl, by decide +kernel, by decide⟩
set_option maxRecDepth 20000 in
theorem fd_X2_canBeAccepted_14 : gFd wsX2_canBeAccepted RX2 14 1 RX2 TX2 4 0 := ⟨in_X2_canBeAccepted_X2, rfl, by decide, by decide +kernel⟩
theorem cb_X2_canBeAccepted__X2_meetsAnAccepted : gCb yX2_meetsAnAccepted cX2_meetsAnAccepted 3 (some .boolean) wsX2_meetsAnAccepted (gR 3) (gR 4) 0 0 1 := ⟨rfl, rfl, rfl, by decide +kernel, by decide⟩
theorem cb_X2_howManyAreListed__X5_used : gCb yX5_used cX5_used 1 (some .int) wsX5_used (gR 0) (gR 3) 0 0 0 := ⟨rfl, rfl, rfl, by decide +kernel, by decide⟩
set_option maxRecDepth 20000 in
theorem in_X2_howManyAreListed_X2 : ∀ w ∈ wsX20, w ∈ wsX2_howManyAreListed := by decide +kernel
set_option maxRecDepth 20000 in
theorem fd_X2_howManyAreListed_14 : gFd wsX2_howManyAreListed RX2 14 1 RX2 TX2 4 0 := ⟨in_X2_howManyAreListed_X2, rfl, by decide, by decide +kernel⟩
theorem cb_X2_howManyAreListed__X5_get : gCb yX5_get cX5_get 2 (some .int) wsX5_get (gR 1) (gR 3) 0 0 1 := ⟨rfl, rfl, rfl, by decide +kernel, by decide⟩
theorem cb_X2_howManyAreListed__X5_placeOf : gCb yX5_placeOf cX5_placeOf 3 (some .int) wsX5_placeOf (gR 2) (gR 3) 0 0 1 := ⟨rfl, rfl, rfl, by decide +kernel, by decide⟩
theorem cb_X2_howManyMeetAnAccepted__X5_used : gCb yX5_used cX5_used 1 (some .int) wsX5_used (gR 0) (gR 4) 0 0 0 := ⟨rfl, rfl, rfl, by decide +kernel, by decide⟩
theorem cb_X2_howManyMeetAnAccepted__X5_get : gCb yX5_get cX5_get 2 (some .int) wsX5_get (gR 1) (gR 4) 0 0 1 := ⟨rfl, rfl, rfl, by decide +kernel, by decide⟩
theorem cb_X2_howManyMeetAnAccepted__X2_meetsAnAccepted : gCb yX2_meetsAnAccepted cX2_meetsAnAccepted 3 (some .boolean) wsX2_meetsAnAccepted (gR 3) (gR 4) 0 0 1 := ⟨rfl, rfl, rfl, by decide +kernel, by decide⟩
set_option maxRecDepth 20000 in
theorem in_X2_isMoreWanted_X2 : ∀ w ∈ wsX20, w ∈ wsX2_isMoreWanted := by decide +kernel
set_option maxRecDepth 20000 in
theorem fd_X2_isMoreWanted_23 : gFd wsX2_isMoreWanted RX2 23 1 RX2 TX2 4 2 := ⟨in_X2_isMoreWanted_X2, rfl, by decide, by decide +kernel⟩
theorem cb_X2_isMoreWanted__X5_get : gCb yX5_get cX5_get 2 (some .int) wsX5_get (gR 1) (gR 2) 0 0 1 := ⟨rfl, rfl, rfl, by decide +kernel, by decide⟩
set_option maxRecDepth 20000 in
theorem fd_X2_isMoreWanted_14 : gFd wsX2_isMoreWanted RX2 14 1 RX2 TX2 4 0 := ⟨in_X2_isMoreWanted_X2, rfl, by decide, by decide +kernel⟩
theorem cb_X2_isMoreWanted__X1_firstOf : gCb yX1_firstOf cX1_firstOf 1 (some .int) wsX1_firstOf (gR 0) (gR 2) 0 0 1 := ⟨rfl, rfl, rfl, by decide +kernel, by decide⟩
set_option maxRecDepth 20000 in
theorem in_X2_mostWanted_X2 : ∀ w ∈ wsX20, w ∈ wsX2_mostWanted := by decide +kernel
set_option maxRecDepth 20000 in
theorem fd_X2_mostWanted_14 : gFd wsX2_mostWanted RX2 14 1 RX2 TX2 4 0 := ⟨in_X2_mostWanted_X2, rfl, by decide, by decide +kernel⟩
theorem cb_X2_mostWanted__X5_used : gCb yX5_used cX5_used 1 (some .int) wsX5_used (gR 0) (gR 3) 0 0 0 := ⟨rfl, rfl, rfl, by decide +kernel, by decide⟩
set_option maxRecDepth 20000 in
theorem fd_X2_mostWanted_20 : gFd wsX2_mostWanted RX2 20 1 RX2 TX2 4 1 := ⟨in_X2_mostWanted_X2, rfl, by decide, by decide +kernel⟩
theorem cb_X2_mostWanted__X5_get : gCb yX5_get cX5_get 2 (some .int) wsX5_get (gR 1) (gR 3) 0 0 1 := ⟨rfl, rfl, rfl, by decide +kernel, by decide⟩
theorem cb_X2_mostWanted__X2_isMoreWanted : gCb yX2_isMoreWanted cX2_isMoreWanted 3 (some .boolean) wsX2_isMoreWanted (gR 2) (gR 3) 0 0 2 := ⟨rfl, rfl, rfl, by decide +kernel, by decide⟩
set_option maxRecDepth 20000 in
theorem in_X2_take_X2 : ∀ w ∈ wsX20, w ∈ wsX2_take := by decide +kernel
set_option maxRecDepth 20000 in
theorem fd_X2_take_14 : gFd wsX2_take RX2 14 1 RX2 TX2 4 0 := ⟨in_X2_take_X2, rfl, by decide, by decide +kernel⟩
theorem cb_X2_take__X5_placeOf : gCb yX5_placeOf cX5_placeOf 3 (some .int) wsX5_placeOf (gR 2) (gR 3) 0 0 1 := ⟨rfl, rfl, rfl, by decide +kernel, by decide⟩
theorem cb_X2_take__X5_append : gCb yX5_append cX5_append 2 none wsX5_append (gR 0) (gR 3) 0 0 1 := ⟨rfl, rfl, rfl, by decide +kernel, by decide⟩
set_option maxRecDepth 20000 in
theorem fd_X2_take_20 : gFd wsX2_take RX2 20 1 RX2 TX2 4 1 := ⟨in_X2_take_X2, rfl, by decide, by decide +kernel⟩
set_option maxRecDepth 20000 in
theorem fd_X2_take_23 : gFd wsX2_take RX2 23 1 RX2 TX2 4 2 := ⟨in_X2_take_X2, rfl, by decide, by decide +kernel⟩
set_option maxRecDepth 20000 in
theorem fd_X2_take_26 : gFd wsX2_take RX2 26 1 RX2 TX2 4 3 := ⟨in_X2_take_X2, rfl, by decide, by decide +kernel⟩
theorem cb_X2_take__X5_add : gCb yX5_add cX5_add 3 none wsX5_add (gR 2) (gR 3) 0 0 2 := ⟨rfl, rfl, rfl, by decide +kernel, by decide⟩
theorem cb_X2_take__X5_get : gCb yX5_get cX5_get 2 (some .int) wsX5_get (gR 1) (gR 3) 0 0 1 := ⟨rfl, rfl, rfl, by decide +kernel, by decide⟩
set_option maxRecDepth 20000 in
theorem mm_X2_take_mn1 : Cond.methodLink RX2 55 Lib.Math.min.name ∈ wsX2_take := by decide +kernel
set_option maxRecDepth 20000 in
theorem mm_X2_take_mn2 : Cond.static Lib.Math.min.name ∈ wsX2_take := by decide +kernel
set_option maxRecDepth 20000 in
theorem mm_X2_take_mn3 : Cond.initialized "java/lang/Math" ∈ wsX2_take := by decide +kernel
set_option maxRecDepth 20000 in
theorem mm_X2_take_mn4 : Cond.code Lib.Math.min.name Lib.Math.min.code 2 (some .int) ∈ wsX2_take := by decide +kernel
theorem cb_X2_take__X5_set : gCb yX5_set cX5_set 3 none wsX5_set (gR 1) (gR 3) 0 0 2 := ⟨rfl, rfl, rfl, by decide +kernel, by decide⟩
set_option maxHeartbeats 4000000 in
set_option maxRecDepth 100000 in
/-- X2_empty -/
theorem k2_empty (l : Launch) (D : gD) (A : Nat → Prop) (hs : Nat) {G : gH} {a : Nat} {cs as ns ls : List Int32} (h : gList D G a (cs, as, ns, ls)) : gM l yX2_empty wsX2_empty (gR 1) D A hs 0 0 [.ref a] G (gPv fun G' => gList D G' a ([], [], [], []) ∧ gOut a 9 G G') := by
  refine gM_intro (by decide) rfl rfl (Nat.le_of_ble_eq_true rfl) ?_
  intro p e s m args below meth c C
  have ho : G a = some (.inr (1, [.ref (a + 1), .ref (a + 3), .ref (a + 5), .ref (a + 7)])) := h.1
  have hc : gRow D G (a + 1) 64 cs := h.2.1
  have ha : gRow D G (a + 3) 64 as := h.2.2.1
  have hn : gRow D G (a + 5) 64 ns := h.2.2.2.1
  have hl : gRow D G (a + 7) 64 ls := h.2.2.2.2
  have bc := gRow_le hc
  have ba := gRow_le ha
  have bn := gRow_le hn
  have bl := gRow_le hl
  refine gx_aload_n C dX2_empty_0 rfl ?_
  refine gx_get C fd_X2_empty_14 (hG := ho) (hv := by rfl) dX2_empty_1 ?_
  refine gx_iconst (v := 0) C dX2_empty_4 (by decide) ?_
  refine gx_callV (ci := 4) (T := TX5) (N := 2) C (k5_cutTo l D A hs 0 hc) cb_X2_empty__X5_cutTo gX2_empty_X5_cutTo rfl (hG := (gRow_ob hc)) rfl rfl (Nat.le_of_ble_eq_true rfl) ⟨Nat.le_refl _, Nat.le_refl _⟩ dX2_empty_5 (gx_kv fun G_5 h_5 => ?_)
  rw [lcut_0] at h_5
  have w1 := gOut_wd (b := a) (k := 9) h_5.2 (by omega)
  have o1 : G_5 a = _ := (h_5.2 a (by omega)).trans ho
  have ha1 := gRow_fr ha h_5.2 (by omega)
  have hn1 := gRow_fr hn h_5.2 (by omega)
  have hl1 := gRow_fr hl h_5.2 (by omega)
  refine gx_aload_n C dX2_empty_8 rfl ?_
  refine gx_get C fd_X2_empty_20 (hG := o1) (hv := by rfl) dX2_empty_9 ?_
  refine gx_iconst (v := 0) C dX2_empty_12 (by decide) ?_
  refine gx_callV (ci := 4) (T := TX5) (N := 2) C (k5_cutTo l D A hs 0 ha1) cb_X2_empty__X5_cutTo gX2_empty_X5_cutTo rfl (hG := (gRow_ob ha1)) rfl rfl (Nat.le_of_ble_eq_true rfl) ⟨Nat.le_refl _, Nat.le_refl _⟩ dX2_empty_13 (gx_kv fun G_13 h_13 => ?_)
  rw [lcut_0] at h_13
  have w2 := gOut_tr w1 (gOut_wd (b := a) (k := 9) h_13.2 (by omega))
  have o2 : G_13 a = _ := (h_13.2 a (by omega)).trans o1
  have hc2 := gRow_fr h_5.1 h_13.2 (by omega)
  have hn2 := gRow_fr hn1 h_13.2 (by omega)
  have hl2 := gRow_fr hl1 h_13.2 (by omega)
  refine gx_aload_n C dX2_empty_16 rfl ?_
  refine gx_get C fd_X2_empty_23 (hG := o2) (hv := by rfl) dX2_empty_17 ?_
  refine gx_iconst (v := 0) C dX2_empty_20 (by decide) ?_
  refine gx_callV (ci := 4) (T := TX5) (N := 2) C (k5_cutTo l D A hs 0 hn2) cb_X2_empty__X5_cutTo gX2_empty_X5_cutTo rfl (hG := (gRow_ob hn2)) rfl rfl (Nat.le_of_ble_eq_true rfl) ⟨Nat.le_refl _, Nat.le_refl _⟩ dX2_empty_21 (gx_kv fun G_21 h_21 => ?_)
  rw [lcut_0] at h_21
  have w3 := gOut_tr w2 (gOut_wd (b := a) (k := 9) h_21.2 (by omega))
  have o3 : G_21 a = _ := (h_21.2 a (by omega)).trans o2
  have hc3 := gRow_fr hc2 h_21.2 (by omega)
  have ha3 := gRow_fr h_13.1 h_21.2 (by omega)
  have hl3 := gRow_fr hl2 h_21.2 (by omega)
  refine gx_aload_n C dX2_empty_24 rfl ?_
  refine gx_get C fd_X2_empty_26 (hG := o3) (hv := by rfl) dX2_empty_25 ?_
  refine gx_iconst (v := 0) C dX2_empty_28 (by decide) ?_
  refine gx_callV (ci := 4) (T := TX5) (N := 2) C (k5_cutTo l D A hs 0 hl3) cb_X2_empty__X5_cutTo gX2_empty_X5_cutTo rfl (hG := (gRow_ob hl3)) rfl rfl (Nat.le_of_ble_eq_true rfl) ⟨Nat.le_refl _, Nat.le_refl _⟩ dX2_empty_29 (gx_kv fun G_29 h_29 => ?_)
  rw [lcut_0] at h_29
  have w4 := gOut_tr w3 (gOut_wd (b := a) (k := 9) h_29.2 (by omega))
  have o4 : G_29 a = _ := (h_29.2 a (by omega)).trans o3
  have hc4 := gRow_fr hc3 h_29.2 (by omega)
  have ha4 := gRow_fr ha3 h_29.2 (by omega)
  have hn4 := gRow_fr h_21.1 h_29.2 (by omega)
  refine gx_vret (mc := 0) C ?_ dX2_empty_32
  exact ⟨rfl, ⟨o4, hc4, ha4, hn4, h_29.1⟩, w4⟩
set_option maxHeartbeats 4000000 in
set_option maxRecDepth 100000 in
/-- X2_copyFrom -/
theorem k2_copyFrom (l : Launch) (D : gD) (A : Nat → Prop) (hs : Nat) {G : gH} {a : Nat} {cs as ns ls : List Int32} {b : Nat} {v : ML} (h2 : gList D G b v) (hd : b + 9 ≤ a ∨ a + 9 ≤ b) (h : gList D G a (cs, as, ns, ls)) : gM l yX2_copyFrom wsX2_copyFrom (gR 1) D A hs 0 0 [.ref a, .ref b] G (gPv fun G' => gList D G' a v ∧ gOut a 9 G G') := by
  refine gM_intro (by decide) rfl rfl (Nat.le_of_ble_eq_true rfl) ?_
  intro p e s m args below meth c C
  have ho : G a = some (.inr (1, [.ref (a + 1), .ref (a + 3), .ref (a + 5), .ref (a + 7)])) := h.1
  have hc : gRow D G (a + 1) 64 cs := h.2.1
  have ha : gRow D G (a + 3) 64 as := h.2.2.1
  have hn : gRow D G (a + 5) 64 ns := h.2.2.2.1
  have hl : gRow D G (a + 7) 64 ls := h.2.2.2.2
  have bc := gRow_le hc
  have ba := gRow_le ha
  have bn := gRow_le hn
  have bl := gRow_le hl
  have qo : G b = some (.inr (1, [.ref (b + 1), .ref (b + 3), .ref (b + 5), .ref (b + 7)])) := h2.1
  have qc : gRow D G (b + 1) 64 v.1 := h2.2.1
  have qa : gRow D G (b + 3) 64 v.2.1 := h2.2.2.1
  have qn : gRow D G (b + 5) 64 v.2.2.1 := h2.2.2.2.1
  have ql : gRow D G (b + 7) 64 v.2.2.2 := h2.2.2.2.2
  have zc := gRow_le qc
  have za := gRow_le qa
  have zn := gRow_le qn
  have zl := gRow_le ql
  have o0 := ho
  have p0 := qo
  have hc0 := hc
  have ha0 := ha
  have hn0 := hn
  have hl0 := hl
  have qc0 := qc
  have qa0 := qa
  have qn0 := qn
  have ql0 := ql
  refine gx_aload_n C dX2_copyFrom_0 rfl ?_
  refine gx_get C fd_X2_copyFrom_14 (hG := o0) (hv := by rfl) dX2_copyFrom_1 ?_
  refine gx_aload_n C dX2_copyFrom_4 rfl ?_
  refine gx_get C fd_X2_copyFrom_14 (hG := p0) (hv := by rfl) dX2_copyFrom_5 ?_
  refine gx_callV (ci := 4) (T := TX5) (N := 2) C (k5_copyFrom l D A hs hc0 qc0 (by omega) (by omega)) cb_X2_copyFrom__X5_copyFrom gX2_copyFrom_X5_copyFrom rfl (hG := (gRow_ob hc0)) rfl rfl (Nat.le_of_ble_eq_true rfl) ⟨Nat.le_refl _, Nat.le_refl _⟩ dX2_copyFrom_8 (gx_kv fun G_8 h_8 => ?_)
  have w1 := (gOut_wd (b := a) (k := 9) h_8.2 (by omega))
  have o1 : G_8 a = _ := (h_8.2 a (by omega)).trans o0
  have p1 : G_8 b = _ := (h_8.2 b (by omega)).trans p0
  have hc1 := h_8.1
  have ha1 := gRow_fr ha0 h_8.2 (by omega)
  have qa1 := gRow_fr qa0 h_8.2 (by omega)
  have hn1 := gRow_fr hn0 h_8.2 (by omega)
  have qn1 := gRow_fr qn0 h_8.2 (by omega)
  have hl1 := gRow_fr hl0 h_8.2 (by omega)
  have ql1 := gRow_fr ql0 h_8.2 (by omega)
  refine gx_aload_n C dX2_copyFrom_11 rfl ?_
  refine gx_get C fd_X2_copyFrom_20 (hG := o1) (hv := by rfl) dX2_copyFrom_12 ?_
  refine gx_aload_n C dX2_copyFrom_15 rfl ?_
  refine gx_get C fd_X2_copyFrom_20 (hG := p1) (hv := by rfl) dX2_copyFrom_16 ?_
  refine gx_callV (ci := 4) (T := TX5) (N := 2) C (k5_copyFrom l D A hs ha1 qa1 (by omega) (by omega)) cb_X2_copyFrom__X5_copyFrom gX2_copyFrom_X5_copyFrom rfl (hG := (gRow_ob ha1)) rfl rfl (Nat.le_of_ble_eq_true rfl) ⟨Nat.le_refl _, Nat.le_refl _⟩ dX2_copyFrom_19 (gx_kv fun G_19 h_19 => ?_)
  have w2 := gOut_tr w1 (gOut_wd (b := a) (k := 9) h_19.2 (by omega))
  have o2 : G_19 a = _ := (h_19.2 a (by omega)).trans o1
  have p2 : G_19 b = _ := (h_19.2 b (by omega)).trans p1
  have hc2 := gRow_fr hc1 h_19.2 (by omega)
  have ha2 := h_19.1
  have hn2 := gRow_fr hn1 h_19.2 (by omega)
  have qn2 := gRow_fr qn1 h_19.2 (by omega)
  have hl2 := gRow_fr hl1 h_19.2 (by omega)
  have ql2 := gRow_fr ql1 h_19.2 (by omega)
  refine gx_aload_n C dX2_copyFrom_22 rfl ?_
  refine gx_get C fd_X2_copyFrom_23 (hG := o2) (hv := by rfl) dX2_copyFrom_23 ?_
  refine gx_aload_n C dX2_copyFrom_26 rfl ?_
  refine gx_get C fd_X2_copyFrom_23 (hG := p2) (hv := by rfl) dX2_copyFrom_27 ?_
  refine gx_callV (ci := 4) (T := TX5) (N := 2) C (k5_copyFrom l D A hs hn2 qn2 (by omega) (by omega)) cb_X2_copyFrom__X5_copyFrom gX2_copyFrom_X5_copyFrom rfl (hG := (gRow_ob hn2)) rfl rfl (Nat.le_of_ble_eq_true rfl) ⟨Nat.le_refl _, Nat.le_refl _⟩ dX2_copyFrom_30 (gx_kv fun G_30 h_30 => ?_)
  have w3 := gOut_tr w2 (gOut_wd (b := a) (k := 9) h_30.2 (by omega))
  have o3 : G_30 a = _ := (h_30.2 a (by omega)).trans o2
  have p3 : G_30 b = _ := (h_30.2 b (by omega)).trans p2
  have hc3 := gRow_fr hc2 h_30.2 (by omega)
  have ha3 := gRow_fr ha2 h_30.2 (by omega)
  have hn3 := h_30.1
  have hl3 := gRow_fr hl2 h_30.2 (by omega)
  have ql3 := gRow_fr ql2 h_30.2 (by omega)
  refine gx_aload_n C dX2_copyFrom_33 rfl ?_
  refine gx_get C fd_X2_copyFrom_26 (hG := o3) (hv := by rfl) dX2_copyFrom_34 ?_
  refine gx_aload_n C dX2_copyFrom_37 rfl ?_
  refine gx_get C fd_X2_copyFrom_26 (hG := p3) (hv := by rfl) dX2_copyFrom_38 ?_
  refine gx_callV (ci := 4) (T := TX5) (N := 2) C (k5_copyFrom l D A hs hl3 ql3 (by omega) (by omega)) cb_X2_copyFrom__X5_copyFrom gX2_copyFrom_X5_copyFrom rfl (hG := (gRow_ob hl3)) rfl rfl (Nat.le_of_ble_eq_true rfl) ⟨Nat.le_refl _, Nat.le_refl _⟩ dX2_copyFrom_41 (gx_kv fun G_41 h_41 => ?_)
  have w4 := gOut_tr w3 (gOut_wd (b := a) (k := 9) h_41.2 (by omega))
  have o4 : G_41 a = _ := (h_41.2 a (by omega)).trans o3
  have p4 : G_41 b = _ := (h_41.2 b (by omega)).trans p3
  have hc4 := gRow_fr hc3 h_41.2 (by omega)
  have ha4 := gRow_fr ha3 h_41.2 (by omega)
  have hn4 := gRow_fr hn3 h_41.2 (by omega)
  have hl4 := h_41.1
  refine gx_vret (mc := 0) C ?_ dX2_copyFrom_44
  exact ⟨rfl, ⟨o4, hc4, ha4, hn4, hl4⟩, w4⟩
set_option maxHeartbeats 4000000 in
set_option maxRecDepth 100000 in
/-- X2_hasNot -/
theorem k2_hasNot (l : Launch) (D : gD) (A : Nat → Prop) (hs : Nat) {G : gH} {a : Nat} {cs as ns ls : List Int32} (i : Int32) (h : gList D G a (cs, as, ns, ls)) : gM l yX2_hasNot wsX2_hasNot (gR 1) D A hs 0 0 [.ref a, .int i] G (gPi fun x G' => x = (if gIn i cs.length then 0 else 1) ∧ G' = G) := by
  refine gM_intro (by decide) rfl rfl (Nat.le_of_ble_eq_true rfl) ?_
  intro p e s m args below meth c C
  have ho : G a = some (.inr (1, [.ref (a + 1), .ref (a + 3), .ref (a + 5), .ref (a + 7)])) := h.1
  have hc : gRow D G (a + 1) 64 cs := h.2.1
  have ha : gRow D G (a + 3) 64 as := h.2.2.1
  have hn : gRow D G (a + 5) 64 ns := h.2.2.2.1
  have hl : gRow D G (a + 7) 64 ls := h.2.2.2.2
  have bc := gRow_le hc
  have ba := gRow_le ha
  have bn := gRow_le hn
  have bl := gRow_le hl
  refine gx_iload_n C dX2_hasNot_0 rfl ?_
  refine gx_iconst (v := 0) C dX2_hasNot_1 (by decide) ?_
  refine gx_aload_n C dX2_hasNot_2 rfl ?_
  refine gx_get C fd_X2_hasNot_14 (hG := ho) (hv := by rfl) dX2_hasNot_3 ?_
  refine gx_callV (ci := 4) (T := TX5) (N := 2) C (k5_used l D A hs hc) cb_X2_hasNot__X5_used gX2_hasNot_X5_used rfl (hG := (gRow_ob hc)) rfl rfl (Nat.le_of_ble_eq_true rfl) ⟨Nat.le_refl _, Nat.le_refl _⟩ dX2_hasNot_6 (gx_ki fun r_6 G_6 h_6 => ?_)
  obtain ⟨rfl, rfl⟩ := h_6
  refine gx_iconst (v := 1) C dX2_hasNot_9 (by decide) ?_
  refine gx_isub C dX2_hasNot_10 ?_
  refine gx_callSN C (k8_isOutside l D A hs i 0 (nI cs.length - 1)) cb_X2_hasNot__X8_isOutside gX2_hasNot_X8_isOutside_n40 (by decide +kernel) mm_X2_hasNot_iniX8 mm_X2_hasNot_stX8_isOutside rfl rfl (Nat.le_of_ble_eq_true rfl) ⟨Nat.le_refl _, Nat.le_refl _⟩ dX2_hasNot_11 (gx_ki fun r_11 G_11 h_11 => ?_)
  obtain ⟨rfl, rfl⟩ := h_11
  refine gx_zret (mc := 0) C (by rw [pOut_in (by omega)]; split <;> rfl) ?_ dX2_hasNot_14
  exact ⟨_, rfl, pOut_in (by omega), rfl⟩
set_option maxHeartbeats 4000000 in
set_option maxRecDepth 100000 in
/-- X2_howManyAreOpen -/
theorem k2_howManyAreOpen (l : Launch) (D : gD) (A : Nat → Prop) (hs : Nat) {G : gH} {a : Nat} {cs as ns ls : List Int32} (h : gList D G a (cs, as, ns, ls)) : gM l yX2_howManyAreOpen wsX2_howManyAreOpen (gR 2) D A hs 0 0 [.ref a] G (gPi fun x G' => x = nI (pOpenN as as.length) ∧ G' = G) := by
  refine gM_intro (by decide) rfl rfl (Nat.le_of_ble_eq_true rfl) ?_
  intro p e s m args below meth c C
  have ho : G a = some (.inr (1, [.ref (a + 1), .ref (a + 3), .ref (a + 5), .ref (a + 7)])) := h.1
  have hc : gRow D G (a + 1) 64 cs := h.2.1
  have ha : gRow D G (a + 3) 64 as := h.2.2.1
  have hn : gRow D G (a + 5) 64 ns := h.2.2.2.1
  have hl : gRow D G (a + 7) 64 ls := h.2.2.2.2
  have bc := gRow_le hc
  have ba := gRow_le ha
  have bn := gRow_le hn
  have bl := gRow_le hl
  have hloop : ∀ (n j : Nat) , as.length < j + n → j ≤ as.length → gX p l e (gR 2) s m args below meth c D A 3 hs 0 0 (MQ below (gQ D A hs 0 (gPi fun x G' => x = nI (pOpenN as as.length) ∧ G' = G)) args s 0 0 A) G [some (.ref a), some (.int (nI (pOpenN as j))), some (.int (nI j))] 4 [] := by
    intro n
    induction n with
    | zero => intro j hm hj0; exact absurd hm (by omega)
    | succ n ih =>
      intro j hm hj0
      refine gx_iload_n C dX2_howManyAreOpen_4 rfl ?_
      refine gx_aload_n C dX2_howManyAreOpen_5 rfl ?_
      refine gx_get C fd_X2_howManyAreOpen_20 (hG := ho) (hv := by rfl) dX2_howManyAreOpen_6 ?_
      refine gx_callV (ci := 4) (T := TX5) (N := 2) C (k5_used l D A hs ha) cb_X2_howManyAreOpen__X5_used gX2_howManyAreOpen_X5_used rfl (hG := (gRow_ob ha)) rfl rfl (Nat.le_of_ble_eq_true rfl) ⟨Nat.le_refl _, Nat.le_refl _⟩ dX2_howManyAreOpen_9 (gx_ki fun r_9 G_9 h_9 => ?_)
      obtain ⟨rfl, rfl⟩ := h_9
      refine gx_icmp_ge (tgt := 35) C dX2_howManyAreOpen_12 (by decide) (fun c_12 => ?_) (fun c_12 => ?_)
      · have hj : ¬ j < as.length := fun q => nI_ge q (by omega) c_12
        refine gx_iload_n C dX2_howManyAreOpen_35 rfl ?_
        refine gx_zret (mc := 0) C rfl ?_ dX2_howManyAreOpen_36
        have e : j = as.length := by omega
        subst e
        exact ⟨_, rfl, rfl, rfl⟩
      · have hj : j < as.length := by
          rcases Nat.lt_or_ge (j) (as.length) with q | q
          · exact q
          · exact absurd (nI_le q (by omega)) c_12
        refine gx_aload_n C dX2_howManyAreOpen_15 rfl ?_
        refine gx_get C fd_X2_howManyAreOpen_20 (hG := ho) (hv := by rfl) dX2_howManyAreOpen_16 ?_
        refine gx_iload_n C dX2_howManyAreOpen_19 rfl ?_
        refine gx_callV (ci := 4) (T := TX5) (N := 2) C (k5_get l D A hs (nI j) ha) cb_X2_howManyAreOpen__X5_get gX2_howManyAreOpen_X5_get rfl (hG := (gRow_ob ha)) rfl rfl (Nat.le_of_ble_eq_true rfl) ⟨Nat.le_refl _, Nat.le_refl _⟩ dX2_howManyAreOpen_20 (gx_ki fun r_20 G_20 h_20 => ?_)
        obtain ⟨rfl, rfl⟩ := h_20
        refine gx_if_ne (tgt := 29) C dX2_howManyAreOpen_23 (by decide) (fun c_23 => ?_) (fun c_23 => ?_)
        · rw [lget_nI (by omega)] at c_23
          first | refine gx_iincN C dX2_howManyAreOpen_29 rfl (by decide) ?_ | refine gx_iinc1 C dX2_howManyAreOpen_29 rfl (by decide) ?_
          refine gx_goto (tgt := 4) C dX2_howManyAreOpen_32 (by decide) ?_
          first
            | (refine gx_V ?_ (ih (j + 1) (by omega) (by omega)); simp only [List.set, pOpenN, pC_s (f := fun i => decide (as.getD i 0 = 0)) (n := j) (by simpa using c_23)]; done)
            | (refine gx_V ?_ (ih (j + 1) (by omega) (by omega)); simp only [List.set, pOpenN, pC_n (f := fun i => decide (as.getD i 0 = 0)) (n := j) (by simpa using c_23)]; done)
        · rw [lget_nI (by omega)] at c_23
          first | refine gx_iincN C dX2_howManyAreOpen_26 rfl (by decide) ?_ | refine gx_iinc1 C dX2_howManyAreOpen_26 rfl (by decide) ?_
          first | refine gx_iincN C dX2_howManyAreOpen_29 rfl (by decide) ?_ | refine gx_iinc1 C dX2_howManyAreOpen_29 rfl (by decide) ?_
          refine gx_goto (tgt := 4) C dX2_howManyAreOpen_32 (by decide) ?_
          first
            | (refine gx_V ?_ (ih (j + 1) (by omega) (by omega)); simp only [List.set, pOpenN, pC_s (f := fun i => decide (as.getD i 0 = 0)) (n := j) (by simpa using c_23)]; done)
            | (refine gx_V ?_ (ih (j + 1) (by omega) (by omega)); simp only [List.set, pOpenN, pC_n (f := fun i => decide (as.getD i 0 = 0)) (n := j) (by simpa using c_23)]; done)
  refine gx_iconst (v := 0) C dX2_howManyAreOpen_0 (by decide) ?_
  refine gx_istore_n C dX2_howManyAreOpen_1 (by decide) ?_
  refine gx_iconst (v := 0) C dX2_howManyAreOpen_2 (by decide) ?_
  refine gx_istore_n C dX2_howManyAreOpen_3 (by decide) ?_
  exact hloop (as.length + 1) 0 (by omega) (by omega)
set_option maxHeartbeats 4000000 in
set_option maxRecDepth 100000 in
/-- X2_howManyOppose -/
theorem k2_howManyOppose (l : Launch) (D : gD) (A : Nat → Prop) (hs : Nat) {G : gH} {a : Nat} {cs as ns ls : List Int32} (z : Int32) (h : gList D G a (cs, as, ns, ls)) : gM l yX2_howManyOppose wsX2_howManyOppose (gR 3) D A hs 0 0 [.ref a, .int z] G (gPi fun x G' => x = nI (pOppN cs z cs.length) ∧ G' = G) := by
  refine gM_intro (by decide) rfl rfl (Nat.le_of_ble_eq_true rfl) ?_
  intro p e s m args below meth c C
  have ho : G a = some (.inr (1, [.ref (a + 1), .ref (a + 3), .ref (a + 5), .ref (a + 7)])) := h.1
  have hc : gRow D G (a + 1) 64 cs := h.2.1
  have ha : gRow D G (a + 3) 64 as := h.2.2.1
  have hn : gRow D G (a + 5) 64 ns := h.2.2.2.1
  have hl : gRow D G (a + 7) 64 ls := h.2.2.2.2
  have bc := gRow_le hc
  have ba := gRow_le ha
  have bn := gRow_le hn
  have bl := gRow_le hl
  have hloop : ∀ (n j : Nat) , cs.length < j + n → j ≤ cs.length → gX p l e (gR 3) s m args below meth c D A 4 hs 0 0 (MQ below (gQ D A hs 0 (gPi fun x G' => x = nI (pOppN cs z cs.length) ∧ G' = G)) args s 0 0 A) G [some (.ref a), some (.int z), some (.int (nI (pOppN cs z j))), some (.int (nI j))] 4 [] := by
    intro n
    induction n with
    | zero => intro j hm hj0; exact absurd hm (by omega)
    | succ n ih =>
      intro j hm hj0
      refine gx_iload_n C dX2_howManyOppose_4 rfl ?_
      refine gx_aload_n C dX2_howManyOppose_5 rfl ?_
      refine gx_get C fd_X2_howManyOppose_14 (hG := ho) (hv := by rfl) dX2_howManyOppose_6 ?_
      refine gx_callV (ci := 4) (T := TX5) (N := 2) C (k5_used l D A hs hc) cb_X2_howManyOppose__X5_used gX2_howManyOppose_X5_used rfl (hG := (gRow_ob hc)) rfl rfl (Nat.le_of_ble_eq_true rfl) ⟨Nat.le_refl _, Nat.le_refl _⟩ dX2_howManyOppose_9 (gx_ki fun r_9 G_9 h_9 => ?_)
      obtain ⟨rfl, rfl⟩ := h_9
      refine gx_icmp_ge (tgt := 39) C dX2_howManyOppose_12 (by decide) (fun c_12 => ?_) (fun c_12 => ?_)
      · have hj : ¬ j < cs.length := fun q => nI_ge q (by omega) c_12
        refine gx_iload_n C dX2_howManyOppose_39 rfl ?_
        refine gx_zret (mc := 0) C rfl ?_ dX2_howManyOppose_40
        have e : j = cs.length := by omega
        subst e
        exact ⟨_, rfl, rfl, rfl⟩
      · have hj : j < cs.length := by
          rcases Nat.lt_or_ge (j) (cs.length) with q | q
          · exact q
          · exact absurd (nI_le q (by omega)) c_12
        refine gx_iload_n C dX2_howManyOppose_15 rfl ?_
        refine gx_aload_n C dX2_howManyOppose_16 rfl ?_
        refine gx_get C fd_X2_howManyOppose_14 (hG := ho) (hv := by rfl) dX2_howManyOppose_17 ?_
        refine gx_iload_n C dX2_howManyOppose_20 rfl ?_
        refine gx_callV (ci := 4) (T := TX5) (N := 2) C (k5_get l D A hs (nI j) hc) cb_X2_howManyOppose__X5_get gX2_howManyOppose_X5_get rfl (hG := (gRow_ob hc)) rfl rfl (Nat.le_of_ble_eq_true rfl) ⟨Nat.le_refl _, Nat.le_refl _⟩ dX2_howManyOppose_21 (gx_ki fun r_21 G_21 h_21 => ?_)
        obtain ⟨rfl, rfl⟩ := h_21
        refine gx_callS C (k1_areOpposed l D A hs z (lget cs (nI j))) cb_X2_howManyOppose__X1_areOpposed gX2_howManyOppose_X1_areOpposed rfl rfl (Nat.le_of_ble_eq_true rfl) ⟨Nat.le_refl _, Nat.le_refl _⟩ dX2_howManyOppose_24 (gx_ki fun r_24 G_24 h_24 => ?_)
        obtain ⟨rfl, rfl⟩ := h_24
        refine gx_if_eq (tgt := 33) C dX2_howManyOppose_27 (by decide) (fun c_27 => ?_) (fun c_27 => ?_)
        · rw [lget_nI (by omega)] at c_27
          first | refine gx_iincN C dX2_howManyOppose_33 rfl (by decide) ?_ | refine gx_iinc1 C dX2_howManyOppose_33 rfl (by decide) ?_
          refine gx_goto (tgt := 4) C dX2_howManyOppose_36 (by decide) ?_
          first
            | (refine gx_V ?_ (ih (j + 1) (by omega) (by omega)); simp only [List.set, pOppN, pC_s (f := fun i => decide (¬ pOpp z (cs.getD i 0) = 0)) (n := j) (by simpa using c_27)]; done)
            | (refine gx_V ?_ (ih (j + 1) (by omega) (by omega)); simp only [List.set, pOppN, pC_n (f := fun i => decide (¬ pOpp z (cs.getD i 0) = 0)) (n := j) (by simpa using c_27)]; done)
        · rw [lget_nI (by omega)] at c_27
          first | refine gx_iincN C dX2_howManyOppose_30 rfl (by decide) ?_ | refine gx_iinc1 C dX2_howManyOppose_30 rfl (by decide) ?_
          first | refine gx_iincN C dX2_howManyOppose_33 rfl (by decide) ?_ | refine gx_iinc1 C dX2_howManyOppose_33 rfl (by decide) ?_
          refine gx_goto (tgt := 4) C dX2_howManyOppose_36 (by decide) ?_
          first
            | (refine gx_V ?_ (ih (j + 1) (by omega) (by omega)); simp only [List.set, pOppN, pC_s (f := fun i => decide (¬ pOpp z (cs.getD i 0) = 0)) (n := j) (by simpa using c_27)]; done)
            | (refine gx_V ?_ (ih (j + 1) (by omega) (by omega)); simp only [List.set, pOppN, pC_n (f := fun i => decide (¬ pOpp z (cs.getD i 0) = 0)) (n := j) (by simpa using c_27)]; done)
  refine gx_iconst (v := 0) C dX2_howManyOppose_0 (by decide) ?_
  refine gx_istore_n C dX2_howManyOppose_1 (by decide) ?_
  refine gx_iconst (v := 0) C dX2_howManyOppose_2 (by decide) ?_
  refine gx_istore_n C dX2_howManyOppose_3 (by decide) ?_
  exact hloop (cs.length + 1) 0 (by omega) (by omega)
set_option maxHeartbeats 4000000 in
set_option maxRecDepth 100000 in
/-- X2_opposedPairs -/
theorem k2_opposedPairs (l : Launch) (D : gD) (A : Nat → Prop) (hs : Nat) {G : gH} {a : Nat} {cs as ns ls : List Int32} (h : gList D G a (cs, as, ns, ls)) : gM l yX2_opposedPairs wsX2_opposedPairs (gR 4) D A hs 0 0 [.ref a] G (gPi fun x G' => x = nI (pPairS cs cs.length cs.length) / 2 ∧ G' = G) := by
  refine gM_intro (by decide) rfl rfl (Nat.le_of_ble_eq_true rfl) ?_
  intro p e s m args below meth c C
  have ho : G a = some (.inr (1, [.ref (a + 1), .ref (a + 3), .ref (a + 5), .ref (a + 7)])) := h.1
  have hc : gRow D G (a + 1) 64 cs := h.2.1
  have ha : gRow D G (a + 3) 64 as := h.2.2.1
  have hn : gRow D G (a + 5) 64 ns := h.2.2.2.1
  have hl : gRow D G (a + 7) 64 ls := h.2.2.2.2
  have bc := gRow_le hc
  have ba := gRow_le ha
  have bn := gRow_le hn
  have bl := gRow_le hl
  have hloop : ∀ (n j : Nat) , cs.length < j + n → j ≤ cs.length → gX p l e (gR 4) s m args below meth c D A 3 hs 0 0 (MQ below (gQ D A hs 0 (gPi fun x G' => x = nI (pPairS cs cs.length cs.length) / 2 ∧ G' = G)) args s 0 0 A) G [some (.ref a), some (.int (nI (pPairS cs cs.length j))), some (.int (nI j))] 4 [] := by
    intro n
    induction n with
    | zero => intro j hm hj0; exact absurd hm (by omega)
    | succ n ih =>
      intro j hm hj0
      refine gx_iload_n C dX2_opposedPairs_4 rfl ?_
      refine gx_aload_n C dX2_opposedPairs_5 rfl ?_
      refine gx_get C fd_X2_opposedPairs_14 (hG := ho) (hv := by rfl) dX2_opposedPairs_6 ?_
      refine gx_callV (ci := 4) (T := TX5) (N := 2) C (k5_used l D A hs hc) cb_X2_opposedPairs__X5_used gX2_opposedPairs_X5_used rfl (hG := (gRow_ob hc)) rfl rfl (Nat.le_of_ble_eq_true rfl) ⟨Nat.le_refl _, Nat.le_refl _⟩ dX2_opposedPairs_9 (gx_ki fun r_9 G_9 h_9 => ?_)
      obtain ⟨rfl, rfl⟩ := h_9
      refine gx_icmp_ge (tgt := 36) C dX2_opposedPairs_12 (by decide) (fun c_12 => ?_) (fun c_12 => ?_)
      · have hj : ¬ j < cs.length := fun q => nI_ge q (by omega) c_12
        refine gx_iload_n C dX2_opposedPairs_36 rfl ?_
        refine gx_iconst (v := 2) C dX2_opposedPairs_37 (by decide) ?_
        refine gx_idiv C dX2_opposedPairs_38 (by decide) ?_
        refine gx_zret (mc := 0) C rfl ?_ dX2_opposedPairs_39
        have e : j = cs.length := by omega
        subst e
        exact ⟨_, rfl, rfl, rfl⟩
      · have hj : j < cs.length := by
          rcases Nat.lt_or_ge (j) (cs.length) with q | q
          · exact q
          · exact absurd (nI_le q (by omega)) c_12
        refine gx_iload_n C dX2_opposedPairs_15 rfl ?_
        refine gx_aload_n C dX2_opposedPairs_16 rfl ?_
        refine gx_aload_n C dX2_opposedPairs_17 rfl ?_
        refine gx_get C fd_X2_opposedPairs_14 (hG := ho) (hv := by rfl) dX2_opposedPairs_18 ?_
        refine gx_iload_n C dX2_opposedPairs_21 rfl ?_
        refine gx_callV (ci := 4) (T := TX5) (N := 2) C (k5_get l D A hs (nI j) hc) cb_X2_opposedPairs__X5_get gX2_opposedPairs_X5_get rfl (hG := (gRow_ob hc)) rfl rfl (Nat.le_of_ble_eq_true rfl) ⟨Nat.le_refl _, Nat.le_refl _⟩ dX2_opposedPairs_22 (gx_ki fun r_22 G_22 h_22 => ?_)
        obtain ⟨rfl, rfl⟩ := h_22
        refine gx_callV (ci := 1) (T := TX2) (N := 4) C (k2_howManyOppose l D A hs (lget cs (nI j)) h) cb_X2_opposedPairs__X2_howManyOppose gX2_opposedPairs_X2_howManyOppose rfl (hG := ho) rfl rfl (Nat.le_of_ble_eq_true rfl) ⟨Nat.le_refl _, Nat.le_refl _⟩ dX2_opposedPairs_25 (gx_ki fun r_25 G_25 h_25 => ?_)
        obtain ⟨rfl, rfl⟩ := h_25
        refine gx_iadd C dX2_opposedPairs_28 ?_
        refine gx_istore_n C dX2_opposedPairs_29 (by decide) ?_
        first | refine gx_iincN C dX2_opposedPairs_30 rfl (by decide) ?_ | refine gx_iinc1 C dX2_opposedPairs_30 rfl (by decide) ?_
        refine gx_goto (tgt := 4) C dX2_opposedPairs_33 (by decide) ?_
        refine gx_V ?_ (ih (j + 1) (by omega) (by omega))
        rw [lget_nI (by omega), nI_add]
        simp only [List.set, pPairS]
  refine gx_iconst (v := 0) C dX2_opposedPairs_0 (by decide) ?_
  refine gx_istore_n C dX2_opposedPairs_1 (by decide) ?_
  refine gx_iconst (v := 0) C dX2_opposedPairs_2 (by decide) ?_
  refine gx_istore_n C dX2_opposedPairs_3 (by decide) ?_
  exact hloop (cs.length + 1) 0 (by omega) (by omega)
set_option maxHeartbeats 4000000 in
set_option maxRecDepth 100000 in
/-- X2_meetsAnAccepted -/
theorem k2_meetsAnAccepted (l : Launch) (D : gD) (A : Nat → Prop) (hs : Nat) {G : gH} {a : Nat} {cs as ns ls : List Int32} (z : Int32) (h : gList D G a (cs, as, ns, ls)) : gM l yX2_meetsAnAccepted wsX2_meetsAnAccepted (gR 3) D A hs 0 0 [.ref a, .int z] G (gPi fun x G' => x = (if pMeets cs as z then 1 else 0) ∧ G' = G) := by
  refine gM_intro (by decide) rfl rfl (Nat.le_of_ble_eq_true rfl) ?_
  intro p e s m args below meth c C
  have ho : G a = some (.inr (1, [.ref (a + 1), .ref (a + 3), .ref (a + 5), .ref (a + 7)])) := h.1
  have hc : gRow D G (a + 1) 64 cs := h.2.1
  have ha : gRow D G (a + 3) 64 as := h.2.2.1
  have hn : gRow D G (a + 5) 64 ns := h.2.2.2.1
  have hl : gRow D G (a + 7) 64 ls := h.2.2.2.2
  have bc := gRow_le hc
  have ba := gRow_le ha
  have bn := gRow_le hn
  have bl := gRow_le hl
  have hloop : ∀ (n j : Nat) , cs.length < j + n → j ≤ cs.length → (∀ b, b < j → ¬ pHit cs as z b = true) → gX p l e (gR 3) s m args below meth c D A 3 hs 0 0 (MQ below (gQ D A hs 0 (gPi fun x G' => x = (if pMeets cs as z then 1 else 0) ∧ G' = G)) args s 0 0 A) G [some (.ref a), some (.int z), some (.int (nI j))] 2 [] := by
    intro n
    induction n with
    | zero => intro j hm hj0 hI; exact absurd hm (by omega)
    | succ n ih =>
      intro j hm hj0 hI
      refine gx_iload_n C dX2_meetsAnAccepted_2 rfl ?_
      refine gx_aload_n C dX2_meetsAnAccepted_3 rfl ?_
      refine gx_get C fd_X2_meetsAnAccepted_14 (hG := ho) (hv := by rfl) dX2_meetsAnAccepted_4 ?_
      refine gx_callV (ci := 4) (T := TX5) (N := 2) C (k5_used l D A hs hc) cb_X2_meetsAnAccepted__X5_used gX2_meetsAnAccepted_X5_used rfl (hG := (gRow_ob hc)) rfl rfl (Nat.le_of_ble_eq_true rfl) ⟨Nat.le_refl _, Nat.le_refl _⟩ dX2_meetsAnAccepted_7 (gx_ki fun r_7 G_7 h_7 => ?_)
      obtain ⟨rfl, rfl⟩ := h_7
      refine gx_icmp_ge (tgt := 48) C dX2_meetsAnAccepted_10 (by decide) (fun c_10 => ?_) (fun c_10 => ?_)
      · have hj : ¬ j < cs.length := fun q => nI_ge q (by omega) c_10
        refine gx_iconst (v := 0) C dX2_meetsAnAccepted_48 (by decide) ?_
        refine gx_zret (mc := 0) C rfl ?_ dX2_meetsAnAccepted_49
        exact ⟨_, rfl, by rw [if_neg (by rw [show pMeets cs as z = false from pAny_f (fun b hb => hI b (by omega))]; decide)], rfl⟩
      · have hj : j < cs.length := by
          rcases Nat.lt_or_ge (j) (cs.length) with q | q
          · exact q
          · exact absurd (nI_le q (by omega)) c_10
        refine gx_aload_n C dX2_meetsAnAccepted_13 rfl ?_
        refine gx_get C fd_X2_meetsAnAccepted_20 (hG := ho) (hv := by rfl) dX2_meetsAnAccepted_14 ?_
        refine gx_iload_n C dX2_meetsAnAccepted_17 rfl ?_
        refine gx_callV (ci := 4) (T := TX5) (N := 2) C (k5_get l D A hs (nI j) ha) cb_X2_meetsAnAccepted__X5_get gX2_meetsAnAccepted_X5_get rfl (hG := (gRow_ob ha)) rfl rfl (Nat.le_of_ble_eq_true rfl) ⟨Nat.le_refl _, Nat.le_refl _⟩ dX2_meetsAnAccepted_18 (gx_ki fun r_18 G_18 h_18 => ?_)
        obtain ⟨rfl, rfl⟩ := h_18
        refine gx_iconst (v := 1) C dX2_meetsAnAccepted_21 (by decide) ?_
        refine gx_icmp_ne (tgt := 42) C dX2_meetsAnAccepted_22 (by decide) (fun c_22 => ?_) (fun c_22 => ?_)
        · rw [lget_nI (by omega)] at c_22
          first | refine gx_iincN C dX2_meetsAnAccepted_42 rfl (by decide) ?_ | refine gx_iinc1 C dX2_meetsAnAccepted_42 rfl (by decide) ?_
          refine gx_goto (tgt := 2) C dX2_meetsAnAccepted_45 (by decide) ?_
          exact ih (j + 1) (by omega) (by omega) (fun b hb => by
            by_cases q : b = j
            · subst q; simp only [pHit, Bool.and_eq_true, decide_eq_true_eq]; rintro ⟨q1, q2⟩; first | exact c_22 q1 | exact q2 c_37
            · exact hI b (by omega))
        · rw [lget_nI (by omega)] at c_22
          refine gx_iload_n C dX2_meetsAnAccepted_25 rfl ?_
          refine gx_aload_n C dX2_meetsAnAccepted_26 rfl ?_
          refine gx_get C fd_X2_meetsAnAccepted_14 (hG := ho) (hv := by rfl) dX2_meetsAnAccepted_27 ?_
          refine gx_iload_n C dX2_meetsAnAccepted_30 rfl ?_
          refine gx_callV (ci := 4) (T := TX5) (N := 2) C (k5_get l D A hs (nI j) hc) cb_X2_meetsAnAccepted__X5_get gX2_meetsAnAccepted_X5_get rfl (hG := (gRow_ob hc)) rfl rfl (Nat.le_of_ble_eq_true rfl) ⟨Nat.le_refl _, Nat.le_refl _⟩ dX2_meetsAnAccepted_31 (gx_ki fun r_31 G_31 h_31 => ?_)
          obtain ⟨rfl, rfl⟩ := h_31
          refine gx_callS C (k1_areOpposed l D A hs z (lget cs (nI j))) cb_X2_meetsAnAccepted__X1_areOpposed gX2_meetsAnAccepted_X1_areOpposed rfl rfl (Nat.le_of_ble_eq_true rfl) ⟨Nat.le_refl _, Nat.le_refl _⟩ dX2_meetsAnAccepted_34 (gx_ki fun r_34 G_34 h_34 => ?_)
          obtain ⟨rfl, rfl⟩ := h_34
          refine gx_if_eq (tgt := 42) C dX2_meetsAnAccepted_37 (by decide) (fun c_37 => ?_) (fun c_37 => ?_)
          · rw [lget_nI (by omega)] at c_37
            first | refine gx_iincN C dX2_meetsAnAccepted_42 rfl (by decide) ?_ | refine gx_iinc1 C dX2_meetsAnAccepted_42 rfl (by decide) ?_
            refine gx_goto (tgt := 2) C dX2_meetsAnAccepted_45 (by decide) ?_
            exact ih (j + 1) (by omega) (by omega) (fun b hb => by
              by_cases q : b = j
              · subst q; simp only [pHit, Bool.and_eq_true, decide_eq_true_eq]; rintro ⟨q1, q2⟩; first | exact c_22 q1 | exact q2 c_37
              · exact hI b (by omega))
          · rw [lget_nI (by omega)] at c_37
            refine gx_iconst (v := 1) C dX2_meetsAnAccepted_40 (by decide) ?_
            refine gx_zret (mc := 0) C rfl ?_ dX2_meetsAnAccepted_41
            have q : pMeets cs as z = true := pAny_t hj (by simp only [pHit, Bool.and_eq_true, decide_eq_true_eq]; exact ⟨c_22, c_37⟩)
            exact ⟨_, rfl, by rw [if_pos q], rfl⟩
  refine gx_iconst (v := 0) C dX2_meetsAnAccepted_0 (by decide) ?_
  refine gx_istore_n C dX2_meetsAnAccepted_1 (by decide) ?_
  exact hloop (cs.length + 1) 0 (by omega) (by omega) (fun b hb => absurd hb (by omega))
set_option maxHeartbeats 4000000 in
set_option maxRecDepth 100000 in
/-- X2_canBeAccepted -/
theorem k2_canBeAccepted (l : Launch) (D : gD) (A : Nat → Prop) (hs : Nat) {G : gH} {a : Nat} {cs as ns ls : List Int32} (i : Int32) (h : gList D G a (cs, as, ns, ls)) : gM l yX2_canBeAccepted wsX2_canBeAccepted (gR 4) D A hs 0 0 [.ref a, .int i] G (gPi fun x G' => x = (if lget as i = 0 ∧ ¬ pMeets cs as (lget cs i) = true then (1 : Int32) else 0) ∧ G' = G) := by
  refine gM_intro (by decide) rfl rfl (Nat.le_of_ble_eq_true rfl) ?_
  intro p e s m args below meth c C
  have ho : G a = some (.inr (1, [.ref (a + 1), .ref (a + 3), .ref (a + 5), .ref (a + 7)])) := h.1
  have hc : gRow D G (a + 1) 64 cs := h.2.1
  have ha : gRow D G (a + 3) 64 as := h.2.2.1
  have hn : gRow D G (a + 5) 64 ns := h.2.2.2.1
  have hl : gRow D G (a + 7) 64 ls := h.2.2.2.2
  have bc := gRow_le hc
  have ba := gRow_le ha
  have bn := gRow_le hn
  have bl := gRow_le hl
  refine gx_aload_n C dX2_canBeAccepted_0 rfl ?_
  refine gx_get C fd_X2_canBeAccepted_20 (hG := ho) (hv := by rfl) dX2_canBeAccepted_1 ?_
  refine gx_iload_n C dX2_canBeAccepted_4 rfl ?_
  refine gx_callV (ci := 4) (T := TX5) (N := 2) C (k5_get l D A hs i ha) cb_X2_canBeAccepted__X5_get gX2_canBeAccepted_X5_get rfl (hG := (gRow_ob ha)) rfl rfl (Nat.le_of_ble_eq_true rfl) ⟨Nat.le_refl _, Nat.le_refl _⟩ dX2_canBeAccepted_5 (gx_ki fun r_5 G_5 h_5 => ?_)
  obtain ⟨rfl, rfl⟩ := h_5
  refine gx_if_ne (tgt := 30) C dX2_canBeAccepted_8 (by decide) (fun c_8 => ?_) (fun c_8 => ?_)
  · have hv : (if lget as i = 0 ∧ ¬ pMeets cs as (lget cs i) = true then (1 : Int32) else 0) = 0 := if_neg (fun z => c_8 z.1)
    refine gx_iconst (v := 0) C dX2_canBeAccepted_30 (by decide) ?_
    refine gx_zret (mc := 0) C rfl ?_ dX2_canBeAccepted_31
    exact ⟨_, rfl, hv.symm, rfl⟩
  · refine gx_aload_n C dX2_canBeAccepted_11 rfl ?_
    refine gx_aload_n C dX2_canBeAccepted_12 rfl ?_
    refine gx_get C fd_X2_canBeAccepted_14 (hG := ho) (hv := by rfl) dX2_canBeAccepted_13 ?_
    refine gx_iload_n C dX2_canBeAccepted_16 rfl ?_
    refine gx_callV (ci := 4) (T := TX5) (N := 2) C (k5_get l D A hs i hc) cb_X2_canBeAccepted__X5_get gX2_canBeAccepted_X5_get rfl (hG := (gRow_ob hc)) rfl rfl (Nat.le_of_ble_eq_true rfl) ⟨Nat.le_refl _, Nat.le_refl _⟩ dX2_canBeAccepted_17 (gx_ki fun r_17 G_17 h_17 => ?_)
    obtain ⟨rfl, rfl⟩ := h_17
    refine gx_callV (ci := 1) (T := TX2) (N := 4) C (k2_meetsAnAccepted l D A hs (lget cs i) h) cb_X2_canBeAccepted__X2_meetsAnAccepted gX2_canBeAccepted_X2_meetsAnAccepted rfl (hG := ho) rfl rfl (Nat.le_of_ble_eq_true rfl) ⟨Nat.le_refl _, Nat.le_refl _⟩ dX2_canBeAccepted_20 (gx_ki fun r_20 G_20 h_20 => ?_)
    obtain ⟨rfl, rfl⟩ := h_20
    refine gx_if_ne (tgt := 30) C dX2_canBeAccepted_23 (by decide) (fun c_23 => ?_) (fun c_23 => ?_)
    · have q : pMeets cs as (lget cs i) = true := by
        by_cases q : pMeets cs as (lget cs i) = true
        · exact q
        · rw [if_neg q] at c_23; exact absurd rfl c_23
      have hv : (if lget as i = 0 ∧ ¬ pMeets cs as (lget cs i) = true then (1 : Int32) else 0) = 0 := if_neg (fun z => z.2 q)
      refine gx_iconst (v := 0) C dX2_canBeAccepted_30 (by decide) ?_
      refine gx_zret (mc := 0) C rfl ?_ dX2_canBeAccepted_31
      exact ⟨_, rfl, hv.symm, rfl⟩
    · have q : ¬ pMeets cs as (lget cs i) = true := fun q => by
        rw [if_pos q] at c_23; exact absurd c_23 (by decide)
      have hv : (if lget as i = 0 ∧ ¬ pMeets cs as (lget cs i) = true then (1 : Int32) else 0) = 1 := if_pos ⟨c_8, q⟩
      refine gx_iconst (v := 1) C dX2_canBeAccepted_26 (by decide) ?_
      refine gx_goto (tgt := 31) C dX2_canBeAccepted_27 (by decide) ?_
      refine gx_zret (mc := 0) C rfl ?_ dX2_canBeAccepted_31
      exact ⟨_, rfl, hv.symm, rfl⟩
set_option maxHeartbeats 4000000 in
set_option maxRecDepth 100000 in
/-- X2_howManyAreListed -/
theorem k2_howManyAreListed (l : Launch) (D : gD) (A : Nat → Prop) (hs : Nat) {G : gH} {a : Nat} {cs as ns ls : List Int32} {b cap : Nat} {ms : List Int32} (hm0 : gRow D G b cap ms) (h : gList D G a (cs, as, ns, ls)) : gM l yX2_howManyAreListed wsX2_howManyAreListed (gR 3) D A hs 0 0 [.ref a, .ref b] G (gPi fun x G' => x = nI (pListN cs ms ms.length) ∧ G' = G) := by
  refine gM_intro (by decide) rfl rfl (Nat.le_of_ble_eq_true rfl) ?_
  intro p e s m args below meth c C
  have ho : G a = some (.inr (1, [.ref (a + 1), .ref (a + 3), .ref (a + 5), .ref (a + 7)])) := h.1
  have hc : gRow D G (a + 1) 64 cs := h.2.1
  have ha : gRow D G (a + 3) 64 as := h.2.2.1
  have hn : gRow D G (a + 5) 64 ns := h.2.2.2.1
  have hl : gRow D G (a + 7) 64 ls := h.2.2.2.2
  have bc := gRow_le hc
  have ba := gRow_le ha
  have bn := gRow_le hn
  have bl := gRow_le hl
  have bm := gRow_le hm0
  have hloop : ∀ (n j : Nat) , ms.length < j + n → j ≤ ms.length → gX p l e (gR 3) s m args below meth c D A 4 hs 0 0 (MQ below (gQ D A hs 0 (gPi fun x G' => x = nI (pListN cs ms ms.length) ∧ G' = G)) args s 0 0 A) G [some (.ref a), some (.ref b), some (.int (nI (pListN cs ms j))), some (.int (nI j))] 4 [] := by
    intro n
    induction n with
    | zero => intro j hm hj0; exact absurd hm (by omega)
    | succ n ih =>
      intro j hm hj0
      refine gx_iload_n C dX2_howManyAreListed_4 rfl ?_
      refine gx_aload_n C dX2_howManyAreListed_5 rfl ?_
      refine gx_callV (ci := 4) (T := TX5) (N := 2) C (k5_used l D A hs hm0) cb_X2_howManyAreListed__X5_used gX2_howManyAreListed_X5_used rfl (hG := (gRow_ob hm0)) rfl rfl (Nat.le_of_ble_eq_true rfl) ⟨Nat.le_refl _, Nat.le_refl _⟩ dX2_howManyAreListed_6 (gx_ki fun r_6 G_6 h_6 => ?_)
      obtain ⟨rfl, rfl⟩ := h_6
      refine gx_icmp_ge (tgt := 36) C dX2_howManyAreListed_9 (by decide) (fun c_9 => ?_) (fun c_9 => ?_)
      · have hj : ¬ j < ms.length := fun q => nI_ge q (by omega) c_9
        refine gx_iload_n C dX2_howManyAreListed_36 rfl ?_
        refine gx_zret (mc := 0) C rfl ?_ dX2_howManyAreListed_37
        have e : j = ms.length := by omega
        subst e
        exact ⟨_, rfl, rfl, rfl⟩
      · have hj : j < ms.length := by
          rcases Nat.lt_or_ge (j) (ms.length) with q | q
          · exact q
          · exact absurd (nI_le q (by omega)) c_9
        refine gx_aload_n C dX2_howManyAreListed_12 rfl ?_
        refine gx_get C fd_X2_howManyAreListed_14 (hG := ho) (hv := by rfl) dX2_howManyAreListed_13 ?_
        refine gx_aload_n C dX2_howManyAreListed_16 rfl ?_
        refine gx_iload_n C dX2_howManyAreListed_17 rfl ?_
        refine gx_callV (ci := 4) (T := TX5) (N := 2) C (k5_get l D A hs (nI j) hm0) cb_X2_howManyAreListed__X5_get gX2_howManyAreListed_X5_get rfl (hG := (gRow_ob hm0)) rfl rfl (Nat.le_of_ble_eq_true rfl) ⟨Nat.le_refl _, Nat.le_refl _⟩ dX2_howManyAreListed_18 (gx_ki fun r_18 G_18 h_18 => ?_)
        obtain ⟨rfl, rfl⟩ := h_18
        refine gx_callV (ci := 4) (T := TX5) (N := 2) C (k5_placeOf l D A hs (lget ms (nI j)) hc) cb_X2_howManyAreListed__X5_placeOf gX2_howManyAreListed_X5_placeOf rfl (hG := (gRow_ob hc)) rfl rfl (Nat.le_of_ble_eq_true rfl) ⟨Nat.le_refl _, Nat.le_refl _⟩ dX2_howManyAreListed_21 (gx_ki fun r_21 G_21 h_21 => ?_)
        obtain ⟨rfl, rfl⟩ := h_21
        refine gx_if_lt (tgt := 30) C dX2_howManyAreListed_24 (by decide) (fun c_24 => ?_) (fun c_24 => ?_)
        · rw [lget_nI (by omega), lidx_in (by omega)] at c_24
          first | refine gx_iincN C dX2_howManyAreListed_30 rfl (by decide) ?_ | refine gx_iinc1 C dX2_howManyAreListed_30 rfl (by decide) ?_
          refine gx_goto (tgt := 4) C dX2_howManyAreListed_33 (by decide) ?_
          first
            | (refine gx_V ?_ (ih (j + 1) (by omega) (by omega)); simp only [List.set, pListN, pC_s (f := fun i => decide (ms.getD i 0 ∈ cs)) (n := j) (by simpa using c_24)]; done)
            | (refine gx_V ?_ (ih (j + 1) (by omega) (by omega)); simp only [List.set, pListN, pC_n (f := fun i => decide (ms.getD i 0 ∈ cs)) (n := j) (by simpa using c_24)]; done)
        · rw [lget_nI (by omega), lidx_in (by omega), Decidable.not_not] at c_24
          first | refine gx_iincN C dX2_howManyAreListed_27 rfl (by decide) ?_ | refine gx_iinc1 C dX2_howManyAreListed_27 rfl (by decide) ?_
          first | refine gx_iincN C dX2_howManyAreListed_30 rfl (by decide) ?_ | refine gx_iinc1 C dX2_howManyAreListed_30 rfl (by decide) ?_
          refine gx_goto (tgt := 4) C dX2_howManyAreListed_33 (by decide) ?_
          first
            | (refine gx_V ?_ (ih (j + 1) (by omega) (by omega)); simp only [List.set, pListN, pC_s (f := fun i => decide (ms.getD i 0 ∈ cs)) (n := j) (by simpa using c_24)]; done)
            | (refine gx_V ?_ (ih (j + 1) (by omega) (by omega)); simp only [List.set, pListN, pC_n (f := fun i => decide (ms.getD i 0 ∈ cs)) (n := j) (by simpa using c_24)]; done)
  refine gx_iconst (v := 0) C dX2_howManyAreListed_0 (by decide) ?_
  refine gx_istore_n C dX2_howManyAreListed_1 (by decide) ?_
  refine gx_iconst (v := 0) C dX2_howManyAreListed_2 (by decide) ?_
  refine gx_istore_n C dX2_howManyAreListed_3 (by decide) ?_
  exact hloop (ms.length + 1) 0 (by omega) (by omega)
set_option maxHeartbeats 4000000 in
set_option maxRecDepth 100000 in
/-- X2_howManyMeetAnAccepted -/
theorem k2_howManyMeetAnAccepted (l : Launch) (D : gD) (A : Nat → Prop) (hs : Nat) {G : gH} {a : Nat} {cs as ns ls : List Int32} {b cap : Nat} {ms : List Int32} (hm0 : gRow D G b cap ms) (h : gList D G a (cs, as, ns, ls)) : gM l yX2_howManyMeetAnAccepted wsX2_howManyMeetAnAccepted (gR 4) D A hs 0 0 [.ref a, .ref b] G (gPi fun x G' => x = nI (pMeetN cs as ms ms.length) ∧ G' = G) := by
  refine gM_intro (by decide) rfl rfl (Nat.le_of_ble_eq_true rfl) ?_
  intro p e s m args below meth c C
  have ho : G a = some (.inr (1, [.ref (a + 1), .ref (a + 3), .ref (a + 5), .ref (a + 7)])) := h.1
  have hc : gRow D G (a + 1) 64 cs := h.2.1
  have ha : gRow D G (a + 3) 64 as := h.2.2.1
  have hn : gRow D G (a + 5) 64 ns := h.2.2.2.1
  have hl : gRow D G (a + 7) 64 ls := h.2.2.2.2
  have bc := gRow_le hc
  have ba := gRow_le ha
  have bn := gRow_le hn
  have bl := gRow_le hl
  have bm := gRow_le hm0
  have hloop : ∀ (n j : Nat) , ms.length < j + n → j ≤ ms.length → gX p l e (gR 4) s m args below meth c D A 4 hs 0 0 (MQ below (gQ D A hs 0 (gPi fun x G' => x = nI (pMeetN cs as ms ms.length) ∧ G' = G)) args s 0 0 A) G [some (.ref a), some (.ref b), some (.int (nI (pMeetN cs as ms j))), some (.int (nI j))] 4 [] := by
    intro n
    induction n with
    | zero => intro j hm hj0; exact absurd hm (by omega)
    | succ n ih =>
      intro j hm hj0
      refine gx_iload_n C dX2_howManyMeetAnAccepted_4 rfl ?_
      refine gx_aload_n C dX2_howManyMeetAnAccepted_5 rfl ?_
      refine gx_callV (ci := 4) (T := TX5) (N := 2) C (k5_used l D A hs hm0) cb_X2_howManyMeetAnAccepted__X5_used gX2_howManyMeetAnAccepted_X5_used rfl (hG := (gRow_ob hm0)) rfl rfl (Nat.le_of_ble_eq_true rfl) ⟨Nat.le_refl _, Nat.le_refl _⟩ dX2_howManyMeetAnAccepted_6 (gx_ki fun r_6 G_6 h_6 => ?_)
      obtain ⟨rfl, rfl⟩ := h_6
      refine gx_icmp_ge (tgt := 33) C dX2_howManyMeetAnAccepted_9 (by decide) (fun c_9 => ?_) (fun c_9 => ?_)
      · have hj : ¬ j < ms.length := fun q => nI_ge q (by omega) c_9
        refine gx_iload_n C dX2_howManyMeetAnAccepted_33 rfl ?_
        refine gx_zret (mc := 0) C rfl ?_ dX2_howManyMeetAnAccepted_34
        have e : j = ms.length := by omega
        subst e
        exact ⟨_, rfl, rfl, rfl⟩
      · have hj : j < ms.length := by
          rcases Nat.lt_or_ge (j) (ms.length) with q | q
          · exact q
          · exact absurd (nI_le q (by omega)) c_9
        refine gx_aload_n C dX2_howManyMeetAnAccepted_12 rfl ?_
        refine gx_aload_n C dX2_howManyMeetAnAccepted_13 rfl ?_
        refine gx_iload_n C dX2_howManyMeetAnAccepted_14 rfl ?_
        refine gx_callV (ci := 4) (T := TX5) (N := 2) C (k5_get l D A hs (nI j) hm0) cb_X2_howManyMeetAnAccepted__X5_get gX2_howManyMeetAnAccepted_X5_get rfl (hG := (gRow_ob hm0)) rfl rfl (Nat.le_of_ble_eq_true rfl) ⟨Nat.le_refl _, Nat.le_refl _⟩ dX2_howManyMeetAnAccepted_15 (gx_ki fun r_15 G_15 h_15 => ?_)
        obtain ⟨rfl, rfl⟩ := h_15
        refine gx_callV (ci := 1) (T := TX2) (N := 4) C (k2_meetsAnAccepted l D A hs (lget ms (nI j)) h) cb_X2_howManyMeetAnAccepted__X2_meetsAnAccepted gX2_howManyMeetAnAccepted_X2_meetsAnAccepted rfl (hG := ho) rfl rfl (Nat.le_of_ble_eq_true rfl) ⟨Nat.le_refl _, Nat.le_refl _⟩ dX2_howManyMeetAnAccepted_18 (gx_ki fun r_18 G_18 h_18 => ?_)
        obtain ⟨rfl, rfl⟩ := h_18
        refine gx_if_eq (tgt := 27) C dX2_howManyMeetAnAccepted_21 (by decide) (fun c_21 => ?_) (fun c_21 => ?_)
        · rw [lget_nI (by omega)] at c_21
          have q : ¬ pMeets cs as (ms.getD j 0) = true := fun q => by
            rw [if_pos q] at c_21; exact absurd c_21 (by decide)
          first | refine gx_iincN C dX2_howManyMeetAnAccepted_27 rfl (by decide) ?_ | refine gx_iinc1 C dX2_howManyMeetAnAccepted_27 rfl (by decide) ?_
          refine gx_goto (tgt := 4) C dX2_howManyMeetAnAccepted_30 (by decide) ?_
          first
            | (refine gx_V ?_ (ih (j + 1) (by omega) (by omega)); simp only [List.set, pMeetN, pC_s (f := fun i => pMeets cs as (ms.getD i 0)) (n := j) q]; done)
            | (refine gx_V ?_ (ih (j + 1) (by omega) (by omega)); simp only [List.set, pMeetN, pC_n (f := fun i => pMeets cs as (ms.getD i 0)) (n := j) q]; done)
        · rw [lget_nI (by omega)] at c_21
          have q : pMeets cs as (ms.getD j 0) = true := by
            by_cases q : pMeets cs as (ms.getD j 0) = true
            · exact q
            · rw [if_neg q] at c_21; exact absurd rfl c_21
          first | refine gx_iincN C dX2_howManyMeetAnAccepted_24 rfl (by decide) ?_ | refine gx_iinc1 C dX2_howManyMeetAnAccepted_24 rfl (by decide) ?_
          first | refine gx_iincN C dX2_howManyMeetAnAccepted_27 rfl (by decide) ?_ | refine gx_iinc1 C dX2_howManyMeetAnAccepted_27 rfl (by decide) ?_
          refine gx_goto (tgt := 4) C dX2_howManyMeetAnAccepted_30 (by decide) ?_
          first
            | (refine gx_V ?_ (ih (j + 1) (by omega) (by omega)); simp only [List.set, pMeetN, pC_s (f := fun i => pMeets cs as (ms.getD i 0)) (n := j) q]; done)
            | (refine gx_V ?_ (ih (j + 1) (by omega) (by omega)); simp only [List.set, pMeetN, pC_n (f := fun i => pMeets cs as (ms.getD i 0)) (n := j) q]; done)
  refine gx_iconst (v := 0) C dX2_howManyMeetAnAccepted_0 (by decide) ?_
  refine gx_istore_n C dX2_howManyMeetAnAccepted_1 (by decide) ?_
  refine gx_iconst (v := 0) C dX2_howManyMeetAnAccepted_2 (by decide) ?_
  refine gx_istore_n C dX2_howManyMeetAnAccepted_3 (by decide) ?_
  exact hloop (ms.length + 1) 0 (by omega) (by omega)
set_option maxHeartbeats 4000000 in
set_option maxRecDepth 100000 in
/-- X2_isMoreWanted -/
theorem k2_isMoreWanted (l : Launch) (D : gD) (A : Nat → Prop) (hs : Nat) {G : gH} {a : Nat} {cs as ns ls : List Int32} (i j : Int32) (h : gList D G a (cs, as, ns, ls)) : gM l yX2_isMoreWanted wsX2_isMoreWanted (gR 2) D A hs 0 0 [.ref a, .int i, .int j] G (gPi fun x G' => x = (if pMore cs ns i j then 1 else 0) ∧ G' = G) := by
  refine gM_intro (by decide) rfl rfl (Nat.le_of_ble_eq_true rfl) ?_
  intro p e s m args below meth c C
  have ho : G a = some (.inr (1, [.ref (a + 1), .ref (a + 3), .ref (a + 5), .ref (a + 7)])) := h.1
  have hc : gRow D G (a + 1) 64 cs := h.2.1
  have ha : gRow D G (a + 3) 64 as := h.2.2.1
  have hn : gRow D G (a + 5) 64 ns := h.2.2.2.1
  have hl : gRow D G (a + 7) 64 ls := h.2.2.2.2
  have bc := gRow_le hc
  have ba := gRow_le ha
  have bn := gRow_le hn
  have bl := gRow_le hl
  refine gx_aload_n C dX2_isMoreWanted_0 rfl ?_
  refine gx_get C fd_X2_isMoreWanted_23 (hG := ho) (hv := by rfl) dX2_isMoreWanted_1 ?_
  refine gx_iload_n C dX2_isMoreWanted_4 rfl ?_
  refine gx_callV (ci := 4) (T := TX5) (N := 2) C (k5_get l D A hs i hn) cb_X2_isMoreWanted__X5_get gX2_isMoreWanted_X5_get rfl (hG := (by first | exact gRow_ob hc | exact gRow_ob ha | exact gRow_ob hn | exact gRow_ob hl)) rfl rfl (Nat.le_of_ble_eq_true rfl) ⟨Nat.le_refl _, Nat.le_refl _⟩ dX2_isMoreWanted_5 (gx_ki fun r_5 G_5 h_5 => ?_)
  obtain ⟨rfl, rfl⟩ := h_5
  refine gx_aload_n C dX2_isMoreWanted_8 rfl ?_
  refine gx_get C fd_X2_isMoreWanted_23 (hG := ho) (hv := by rfl) dX2_isMoreWanted_9 ?_
  refine gx_iload_n C dX2_isMoreWanted_12 rfl ?_
  refine gx_callV (ci := 4) (T := TX5) (N := 2) C (k5_get l D A hs j hn) cb_X2_isMoreWanted__X5_get gX2_isMoreWanted_X5_get rfl (hG := (by first | exact gRow_ob hc | exact gRow_ob ha | exact gRow_ob hn | exact gRow_ob hl)) rfl rfl (Nat.le_of_ble_eq_true rfl) ⟨Nat.le_refl _, Nat.le_refl _⟩ dX2_isMoreWanted_13 (gx_ki fun r_13 G_13 h_13 => ?_)
  obtain ⟨rfl, rfl⟩ := h_13
  refine gx_icmp_eq (tgt := 44) C dX2_isMoreWanted_16 (by decide) (fun c_16 => ?_) (fun c_16 => ?_)
  · refine gx_aload_n C dX2_isMoreWanted_44 rfl ?_
    refine gx_get C fd_X2_isMoreWanted_14 (hG := ho) (hv := by rfl) dX2_isMoreWanted_45 ?_
    refine gx_iload_n C dX2_isMoreWanted_48 rfl ?_
    refine gx_callV (ci := 4) (T := TX5) (N := 2) C (k5_get l D A hs i hc) cb_X2_isMoreWanted__X5_get gX2_isMoreWanted_X5_get rfl (hG := (by first | exact gRow_ob hc | exact gRow_ob ha | exact gRow_ob hn | exact gRow_ob hl)) rfl rfl (Nat.le_of_ble_eq_true rfl) ⟨Nat.le_refl _, Nat.le_refl _⟩ dX2_isMoreWanted_49 (gx_ki fun r_49 G_49 h_49 => ?_)
    obtain ⟨rfl, rfl⟩ := h_49
    refine gx_callS C (k1_firstOf l D A hs (lget cs i)) cb_X2_isMoreWanted__X1_firstOf gX2_isMoreWanted_X1_firstOf rfl rfl (Nat.le_of_ble_eq_true rfl) ⟨Nat.le_refl _, Nat.le_refl _⟩ dX2_isMoreWanted_52 (gx_ki fun r_52 G_52 h_52 => ?_)
    obtain ⟨rfl, rfl⟩ := h_52
    refine gx_aload_n C dX2_isMoreWanted_55 rfl ?_
    refine gx_get C fd_X2_isMoreWanted_14 (hG := ho) (hv := by rfl) dX2_isMoreWanted_56 ?_
    refine gx_iload_n C dX2_isMoreWanted_59 rfl ?_
    refine gx_callV (ci := 4) (T := TX5) (N := 2) C (k5_get l D A hs j hc) cb_X2_isMoreWanted__X5_get gX2_isMoreWanted_X5_get rfl (hG := (by first | exact gRow_ob hc | exact gRow_ob ha | exact gRow_ob hn | exact gRow_ob hl)) rfl rfl (Nat.le_of_ble_eq_true rfl) ⟨Nat.le_refl _, Nat.le_refl _⟩ dX2_isMoreWanted_60 (gx_ki fun r_60 G_60 h_60 => ?_)
    obtain ⟨rfl, rfl⟩ := h_60
    refine gx_callS C (k1_firstOf l D A hs (lget cs j)) cb_X2_isMoreWanted__X1_firstOf gX2_isMoreWanted_X1_firstOf rfl rfl (Nat.le_of_ble_eq_true rfl) ⟨Nat.le_refl _, Nat.le_refl _⟩ dX2_isMoreWanted_63 (gx_ki fun r_63 G_63 h_63 => ?_)
    obtain ⟨rfl, rfl⟩ := h_63
    refine gx_icmp_ge (tgt := 73) C dX2_isMoreWanted_66 (by decide) (fun c_66 => ?_) (fun c_66 => ?_)
    · refine gx_iconst (v := 0) C dX2_isMoreWanted_73 (by decide) ?_
      refine gx_zret (mc := 0) C rfl ?_ dX2_isMoreWanted_74
      first
        | exact ⟨_, rfl, by rw [pMore, if_pos c_16, if_pos (by simp only [decide_eq_true_eq]; exact Int32.not_le.mp c_66)], rfl⟩
        | exact ⟨_, rfl, by rw [pMore, if_pos c_16, if_neg (by simp only [decide_eq_true_eq]; exact Int32.not_lt.mpr c_66)], rfl⟩
        | exact ⟨_, rfl, by rw [pMore, if_neg c_16, if_pos (by simp only [decide_eq_true_eq]; exact Int32.not_le.mp c_35)], rfl⟩
        | exact ⟨_, rfl, by rw [pMore, if_neg c_16, if_neg (by simp only [decide_eq_true_eq]; exact Int32.not_lt.mpr c_35)], rfl⟩
    · refine gx_iconst (v := 1) C dX2_isMoreWanted_69 (by decide) ?_
      refine gx_goto (tgt := 74) C dX2_isMoreWanted_70 (by decide) ?_
      refine gx_zret (mc := 0) C rfl ?_ dX2_isMoreWanted_74
      first
        | exact ⟨_, rfl, by rw [pMore, if_pos c_16, if_pos (by simp only [decide_eq_true_eq]; exact Int32.not_le.mp c_66)], rfl⟩
        | exact ⟨_, rfl, by rw [pMore, if_pos c_16, if_neg (by simp only [decide_eq_true_eq]; exact Int32.not_lt.mpr c_66)], rfl⟩
        | exact ⟨_, rfl, by rw [pMore, if_neg c_16, if_pos (by simp only [decide_eq_true_eq]; exact Int32.not_le.mp c_35)], rfl⟩
        | exact ⟨_, rfl, by rw [pMore, if_neg c_16, if_neg (by simp only [decide_eq_true_eq]; exact Int32.not_lt.mpr c_35)], rfl⟩
  · refine gx_aload_n C dX2_isMoreWanted_19 rfl ?_
    refine gx_get C fd_X2_isMoreWanted_23 (hG := ho) (hv := by rfl) dX2_isMoreWanted_20 ?_
    refine gx_iload_n C dX2_isMoreWanted_23 rfl ?_
    refine gx_callV (ci := 4) (T := TX5) (N := 2) C (k5_get l D A hs i hn) cb_X2_isMoreWanted__X5_get gX2_isMoreWanted_X5_get rfl (hG := (by first | exact gRow_ob hc | exact gRow_ob ha | exact gRow_ob hn | exact gRow_ob hl)) rfl rfl (Nat.le_of_ble_eq_true rfl) ⟨Nat.le_refl _, Nat.le_refl _⟩ dX2_isMoreWanted_24 (gx_ki fun r_24 G_24 h_24 => ?_)
    obtain ⟨rfl, rfl⟩ := h_24
    refine gx_aload_n C dX2_isMoreWanted_27 rfl ?_
    refine gx_get C fd_X2_isMoreWanted_23 (hG := ho) (hv := by rfl) dX2_isMoreWanted_28 ?_
    refine gx_iload_n C dX2_isMoreWanted_31 rfl ?_
    refine gx_callV (ci := 4) (T := TX5) (N := 2) C (k5_get l D A hs j hn) cb_X2_isMoreWanted__X5_get gX2_isMoreWanted_X5_get rfl (hG := (by first | exact gRow_ob hc | exact gRow_ob ha | exact gRow_ob hn | exact gRow_ob hl)) rfl rfl (Nat.le_of_ble_eq_true rfl) ⟨Nat.le_refl _, Nat.le_refl _⟩ dX2_isMoreWanted_32 (gx_ki fun r_32 G_32 h_32 => ?_)
    obtain ⟨rfl, rfl⟩ := h_32
    refine gx_icmp_le (tgt := 42) C dX2_isMoreWanted_35 (by decide) (fun c_35 => ?_) (fun c_35 => ?_)
    · refine gx_iconst (v := 0) C dX2_isMoreWanted_42 (by decide) ?_
      refine gx_zret (mc := 0) C rfl ?_ dX2_isMoreWanted_43
      first
        | exact ⟨_, rfl, by rw [pMore, if_pos c_16, if_pos (by simp only [decide_eq_true_eq]; exact Int32.not_le.mp c_66)], rfl⟩
        | exact ⟨_, rfl, by rw [pMore, if_pos c_16, if_neg (by simp only [decide_eq_true_eq]; exact Int32.not_lt.mpr c_66)], rfl⟩
        | exact ⟨_, rfl, by rw [pMore, if_neg c_16, if_pos (by simp only [decide_eq_true_eq]; exact Int32.not_le.mp c_35)], rfl⟩
        | exact ⟨_, rfl, by rw [pMore, if_neg c_16, if_neg (by simp only [decide_eq_true_eq]; exact Int32.not_lt.mpr c_35)], rfl⟩
    · refine gx_iconst (v := 1) C dX2_isMoreWanted_38 (by decide) ?_
      refine gx_goto (tgt := 43) C dX2_isMoreWanted_39 (by decide) ?_
      refine gx_zret (mc := 0) C rfl ?_ dX2_isMoreWanted_43
      first
        | exact ⟨_, rfl, by rw [pMore, if_pos c_16, if_pos (by simp only [decide_eq_true_eq]; exact Int32.not_le.mp c_66)], rfl⟩
        | exact ⟨_, rfl, by rw [pMore, if_pos c_16, if_neg (by simp only [decide_eq_true_eq]; exact Int32.not_lt.mpr c_66)], rfl⟩
        | exact ⟨_, rfl, by rw [pMore, if_neg c_16, if_pos (by simp only [decide_eq_true_eq]; exact Int32.not_le.mp c_35)], rfl⟩
        | exact ⟨_, rfl, by rw [pMore, if_neg c_16, if_neg (by simp only [decide_eq_true_eq]; exact Int32.not_lt.mpr c_35)], rfl⟩
set_option maxHeartbeats 4000000 in
set_option maxRecDepth 100000 in
/-- X2_mostWanted -/
theorem k2_mostWanted (l : Launch) (D : gD) (A : Nat → Prop) (hs : Nat) {G : gH} {a : Nat} {cs as ns ls : List Int32} (h : gList D G a (cs, as, ns, ls)) : gM l yX2_mostWanted wsX2_mostWanted (gR 3) D A hs 0 0 [.ref a] G (gPi fun x G' => x = pBI (-1) (pBest cs as ns cs.length) ∧ G' = G) := by
  refine gM_intro (by decide) rfl rfl (Nat.le_of_ble_eq_true rfl) ?_
  intro p e s m args below meth c C
  have ho : G a = some (.inr (1, [.ref (a + 1), .ref (a + 3), .ref (a + 5), .ref (a + 7)])) := h.1
  have hc : gRow D G (a + 1) 64 cs := h.2.1
  have ha : gRow D G (a + 3) 64 as := h.2.2.1
  have hn : gRow D G (a + 5) 64 ns := h.2.2.2.1
  have hl : gRow D G (a + 7) 64 ls := h.2.2.2.2
  have bc := gRow_le hc
  have ba := gRow_le ha
  have bn := gRow_le hn
  have bl := gRow_le hl
  have hloop : ∀ (n j : Nat) , cs.length < j + n → j ≤ cs.length → gX p l e (gR 3) s m args below meth c D A 3 hs 0 0 (MQ below (gQ D A hs 0 (gPi fun x G' => x = pBI (-1) (pBest cs as ns cs.length) ∧ G' = G)) args s 0 0 A) G [some (.ref a), some (.int (pBI (-1) (pBest cs as ns j))), some (.int (nI j))] 4 [] := by
    intro n
    induction n with
    | zero => intro j hm hj0; exact absurd hm (by omega)
    | succ n ih =>
      intro j hm hj0
      refine gx_iload_n C dX2_mostWanted_4 rfl ?_
      refine gx_aload_n C dX2_mostWanted_5 rfl ?_
      refine gx_get C fd_X2_mostWanted_14 (hG := ho) (hv := by rfl) dX2_mostWanted_6 ?_
      refine gx_callV (ci := 4) (T := TX5) (N := 2) C (k5_used l D A hs hc) cb_X2_mostWanted__X5_used gX2_mostWanted_X5_used rfl (hG := (gRow_ob hc)) rfl rfl (Nat.le_of_ble_eq_true rfl) ⟨Nat.le_refl _, Nat.le_refl _⟩ dX2_mostWanted_9 (gx_ki fun r_9 G_9 h_9 => ?_)
      obtain ⟨rfl, rfl⟩ := h_9
      refine gx_icmp_ge (tgt := 47) C dX2_mostWanted_12 (by decide) (fun c_12 => ?_) (fun c_12 => ?_)
      · have hj : ¬ j < cs.length := fun q => nI_ge q (by omega) c_12
        refine gx_iload_n C dX2_mostWanted_47 rfl ?_
        refine gx_zret (mc := 0) C rfl ?_ dX2_mostWanted_48
        have e : j = cs.length := by omega
        subst e
        exact ⟨_, rfl, rfl, rfl⟩
      · have hj : j < cs.length := by
          rcases Nat.lt_or_ge (j) (cs.length) with q | q
          · exact q
          · exact absurd (nI_le q (by omega)) c_12
        refine gx_aload_n C dX2_mostWanted_15 rfl ?_
        refine gx_get C fd_X2_mostWanted_20 (hG := ho) (hv := by rfl) dX2_mostWanted_16 ?_
        refine gx_iload_n C dX2_mostWanted_19 rfl ?_
        refine gx_callV (ci := 4) (T := TX5) (N := 2) C (k5_get l D A hs (nI j) ha) cb_X2_mostWanted__X5_get gX2_mostWanted_X5_get rfl (hG := (gRow_ob ha)) rfl rfl (Nat.le_of_ble_eq_true rfl) ⟨Nat.le_refl _, Nat.le_refl _⟩ dX2_mostWanted_20 (gx_ki fun r_20 G_20 h_20 => ?_)
        obtain ⟨rfl, rfl⟩ := h_20
        refine gx_if_ne (tgt := 41) C dX2_mostWanted_23 (by decide) (fun c_23 => ?_) (fun c_23 => ?_)
        · rw [lget_nI (by omega)] at c_23
          have hv : pBI (-1) (pBest cs as ns (j + 1)) = pBI (-1) (pBest cs as ns j) := by rw [pBest_s (by decide) (by omega), if_neg c_23]
          first | refine gx_iincN C dX2_mostWanted_41 rfl (by decide) ?_ | refine gx_iinc1 C dX2_mostWanted_41 rfl (by decide) ?_
          refine gx_goto (tgt := 4) C dX2_mostWanted_44 (by decide) ?_
          refine gx_V ?_ (ih (j + 1) (by omega) (by omega))
          rw [hv]
          rfl
        · rw [lget_nI (by omega)] at c_23
          refine gx_iload_n C dX2_mostWanted_26 rfl ?_
          refine gx_if_lt (tgt := 39) C dX2_mostWanted_27 (by decide) (fun c_27 => ?_) (fun c_27 => ?_)
          · have hv : pBI (-1) (pBest cs as ns (j + 1)) = nI j := by rw [pBest_s (by decide) (by omega), if_pos c_23, if_pos (Or.inl c_27)]
            refine gx_iload_n C dX2_mostWanted_39 rfl ?_
            refine gx_istore_n C dX2_mostWanted_40 (by decide) ?_
            first | refine gx_iincN C dX2_mostWanted_41 rfl (by decide) ?_ | refine gx_iinc1 C dX2_mostWanted_41 rfl (by decide) ?_
            refine gx_goto (tgt := 4) C dX2_mostWanted_44 (by decide) ?_
            refine gx_V ?_ (ih (j + 1) (by omega) (by omega))
            rw [hv]
            rfl
          · refine gx_aload_n C dX2_mostWanted_30 rfl ?_
            refine gx_iload_n C dX2_mostWanted_31 rfl ?_
            refine gx_iload_n C dX2_mostWanted_32 rfl ?_
            refine gx_callV (ci := 1) (T := TX2) (N := 4) C (k2_isMoreWanted l D A hs (nI j) (pBI (-1) (pBest cs as ns j)) h) cb_X2_mostWanted__X2_isMoreWanted gX2_mostWanted_X2_isMoreWanted rfl (hG := ho) rfl rfl (Nat.le_of_ble_eq_true rfl) ⟨Nat.le_refl _, Nat.le_refl _⟩ dX2_mostWanted_33 (gx_ki fun r_33 G_33 h_33 => ?_)
            obtain ⟨rfl, rfl⟩ := h_33
            refine gx_if_eq (tgt := 41) C dX2_mostWanted_36 (by decide) (fun c_36 => ?_) (fun c_36 => ?_)
            · have q : ¬ pMore cs ns (nI j) (pBI (-1) (pBest cs as ns j)) = true := fun q => by
                rw [if_pos q] at c_36; exact absurd c_36 (by decide)
              have hv : pBI (-1) (pBest cs as ns (j + 1)) = pBI (-1) (pBest cs as ns j) := by rw [pBest_s (by decide) (by omega), if_pos c_23, if_neg (fun z => z.elim c_27 q)]
              first | refine gx_iincN C dX2_mostWanted_41 rfl (by decide) ?_ | refine gx_iinc1 C dX2_mostWanted_41 rfl (by decide) ?_
              refine gx_goto (tgt := 4) C dX2_mostWanted_44 (by decide) ?_
              refine gx_V ?_ (ih (j + 1) (by omega) (by omega))
              rw [hv]
              rfl
            · have q : pMore cs ns (nI j) (pBI (-1) (pBest cs as ns j)) = true := by
                by_cases q : pMore cs ns (nI j) (pBI (-1) (pBest cs as ns j)) = true
                · exact q
                · rw [if_neg q] at c_36; exact absurd rfl c_36
              have hv : pBI (-1) (pBest cs as ns (j + 1)) = nI j := by rw [pBest_s (by decide) (by omega), if_pos c_23, if_pos (Or.inr q)]
              refine gx_iload_n C dX2_mostWanted_39 rfl ?_
              refine gx_istore_n C dX2_mostWanted_40 (by decide) ?_
              first | refine gx_iincN C dX2_mostWanted_41 rfl (by decide) ?_ | refine gx_iinc1 C dX2_mostWanted_41 rfl (by decide) ?_
              refine gx_goto (tgt := 4) C dX2_mostWanted_44 (by decide) ?_
              refine gx_V ?_ (ih (j + 1) (by omega) (by omega))
              rw [hv]
              rfl
  refine gx_iconst (v := (-1)) C dX2_mostWanted_0 (by decide) ?_
  refine gx_istore_n C dX2_mostWanted_1 (by decide) ?_
  refine gx_iconst (v := 0) C dX2_mostWanted_2 (by decide) ?_
  refine gx_istore_n C dX2_mostWanted_3 (by decide) ?_
  exact hloop (cs.length + 1) 0 (by omega) (by omega)
set_option maxHeartbeats 4000000 in
set_option maxRecDepth 100000 in
/-- X2_take -/
theorem k2_take (l : Launch) (D : gD) (A : Nat → Prop) (hs : Nat) {G : gH} {a : Nat} {cs as ns ls : List Int32} (z w : Int32) (h : gList D G a (cs, as, ns, ls)) : gM l yX2_take wsX2_take (gR 3) D A hs 0 0 [.ref a, .int z, .int w] G (gPi fun x G' => x = (if z ∈ cs then 1 else 0) ∧ gList D G' a (pTake (cs, as, ns, ls) z w) ∧ gOut a 9 G G') := by
  refine gM_intro (by decide) rfl rfl (Nat.le_of_ble_eq_true rfl) ?_
  intro p e s m args below meth c C
  have ho : G a = some (.inr (1, [.ref (a + 1), .ref (a + 3), .ref (a + 5), .ref (a + 7)])) := h.1
  have hc : gRow D G (a + 1) 64 cs := h.2.1
  have ha : gRow D G (a + 3) 64 as := h.2.2.1
  have hn : gRow D G (a + 5) 64 ns := h.2.2.2.1
  have hl : gRow D G (a + 7) 64 ls := h.2.2.2.2
  have bc := gRow_le hc
  have ba := gRow_le ha
  have bn := gRow_le hn
  have bl := gRow_le hl
  refine gx_aload_n C dX2_take_0 rfl ?_
  refine gx_get C fd_X2_take_14 (hG := ho) (hv := by rfl) dX2_take_1 ?_
  refine gx_iload_n C dX2_take_4 rfl ?_
  refine gx_callV (ci := 4) (T := TX5) (N := 2) C (k5_placeOf l D A hs z hc) cb_X2_take__X5_placeOf gX2_take_X5_placeOf rfl (hG := (gRow_ob hc)) rfl rfl (Nat.le_of_ble_eq_true rfl) ⟨Nat.le_refl _, Nat.le_refl _⟩ dX2_take_5 (gx_ki fun r_5 G_5 h_5 => ?_)
  obtain ⟨rfl, rfl⟩ := h_5
  refine gx_istore_n C dX2_take_8 (by decide) ?_
  refine gx_iload_n C dX2_take_9 rfl ?_
  refine gx_if_lt (tgt := 44) C dX2_take_10 (by decide) (fun c_10 => ?_) (fun c_10 => ?_)
  · rw [lidx_in (by omega)] at c_10
    refine gx_aload_n C dX2_take_44 rfl ?_
    refine gx_get C fd_X2_take_14 (hG := ho) (hv := by rfl) dX2_take_45 ?_
    refine gx_iload_n C dX2_take_48 rfl ?_
    refine gx_callV (ci := 4) (T := TX5) (N := 2) C (k5_append l D A hs z hc) cb_X2_take__X5_append gX2_take_X5_append rfl (hG := (gRow_ob hc)) rfl rfl (Nat.le_of_ble_eq_true rfl) ⟨Nat.le_refl _, Nat.le_refl _⟩ dX2_take_49 (gx_kv fun G_49 h_49 => ?_)
    have w1 := gOut_wd (b := a) (k := 9) h_49.2 (by omega)
    have q1 : G_49 a = _ := (h_49.2 a (by omega)).trans ho
    have ha1 := gRow_fr ha h_49.2 (by omega)
    have hn1 := gRow_fr hn h_49.2 (by omega)
    have hl1 := gRow_fr hl h_49.2 (by omega)
    refine gx_aload_n C dX2_take_52 rfl ?_
    refine gx_get C fd_X2_take_20 (hG := q1) (hv := by rfl) dX2_take_53 ?_
    refine gx_iconst (v := 0) C dX2_take_56 (by decide) ?_
    refine gx_callV (ci := 4) (T := TX5) (N := 2) C (k5_append l D A hs 0 ha1) cb_X2_take__X5_append gX2_take_X5_append rfl (hG := (gRow_ob ha1)) rfl rfl (Nat.le_of_ble_eq_true rfl) ⟨Nat.le_refl _, Nat.le_refl _⟩ dX2_take_57 (gx_kv fun G_57 h_57 => ?_)
    have w2 := gOut_tr w1 (gOut_wd (b := a) (k := 9) h_57.2 (by omega))
    have q2 : G_57 a = _ := (h_57.2 a (by omega)).trans q1
    have hc2 := gRow_fr h_49.1 h_57.2 (by omega)
    have hn2 := gRow_fr hn1 h_57.2 (by omega)
    have hl2 := gRow_fr hl1 h_57.2 (by omega)
    refine gx_aload_n C dX2_take_60 rfl ?_
    refine gx_get C fd_X2_take_23 (hG := q2) (hv := by rfl) dX2_take_61 ?_
    refine gx_iconst (v := 1) C dX2_take_64 (by decide) ?_
    refine gx_callV (ci := 4) (T := TX5) (N := 2) C (k5_append l D A hs 1 hn2) cb_X2_take__X5_append gX2_take_X5_append rfl (hG := (gRow_ob hn2)) rfl rfl (Nat.le_of_ble_eq_true rfl) ⟨Nat.le_refl _, Nat.le_refl _⟩ dX2_take_65 (gx_kv fun G_65 h_65 => ?_)
    have w3 := gOut_tr w2 (gOut_wd (b := a) (k := 9) h_65.2 (by omega))
    have q3 : G_65 a = _ := (h_65.2 a (by omega)).trans q2
    have hc3 := gRow_fr hc2 h_65.2 (by omega)
    have ha3 := gRow_fr h_57.1 h_65.2 (by omega)
    have hl3 := gRow_fr hl2 h_65.2 (by omega)
    refine gx_aload_n C dX2_take_68 rfl ?_
    refine gx_get C fd_X2_take_26 (hG := q3) (hv := by rfl) dX2_take_69 ?_
    refine gx_iload_n C dX2_take_72 rfl ?_
    refine gx_callV (ci := 4) (T := TX5) (N := 2) C (k5_append l D A hs w hl3) cb_X2_take__X5_append gX2_take_X5_append rfl (hG := (gRow_ob hl3)) rfl rfl (Nat.le_of_ble_eq_true rfl) ⟨Nat.le_refl _, Nat.le_refl _⟩ dX2_take_73 (gx_kv fun G_73 h_73 => ?_)
    have w4 := gOut_tr w3 (gOut_wd (b := a) (k := 9) h_73.2 (by omega))
    have q4 : G_73 a = _ := (h_73.2 a (by omega)).trans q3
    have hc4 := gRow_fr hc3 h_73.2 (by omega)
    have ha4 := gRow_fr ha3 h_73.2 (by omega)
    have hn4 := gRow_fr h_65.1 h_73.2 (by omega)
    refine gx_iconst (v := 0) C dX2_take_76 (by decide) ?_
    refine gx_zret (mc := 0) C rfl ?_ dX2_take_77
    exact ⟨_, rfl, (if_neg c_10).symm, by rw [pTake, if_neg c_10]; exact ⟨q4, hc4, ha4, hn4, h_73.1⟩, w4⟩
  · rw [lidx_in (by omega), Decidable.not_not] at c_10
    refine gx_aload_n C dX2_take_13 rfl ?_
    refine gx_get C fd_X2_take_23 (hG := ho) (hv := by rfl) dX2_take_14 ?_
    refine gx_iload_n C dX2_take_17 rfl ?_
    refine gx_iconst (v := 1) C dX2_take_18 (by decide) ?_
    refine gx_callV (ci := 4) (T := TX5) (N := 2) C (k5_add l D A hs (lidx cs z) 1 hn) cb_X2_take__X5_add gX2_take_X5_add rfl (hG := (gRow_ob hn)) rfl rfl (Nat.le_of_ble_eq_true rfl) ⟨Nat.le_refl _, Nat.le_refl _⟩ dX2_take_19 (gx_kv fun G_19 h_19 => ?_)
    have w1 := gOut_wd (b := a) (k := 9) h_19.2 (by omega)
    have o1 : G_19 a = _ := (h_19.2 a (by omega)).trans ho
    have hc1 := gRow_fr hc h_19.2 (by omega)
    have ha1 := gRow_fr ha h_19.2 (by omega)
    have hl1 := gRow_fr hl h_19.2 (by omega)
    refine gx_aload_n C dX2_take_22 rfl ?_
    refine gx_get C fd_X2_take_26 (hG := o1) (hv := by rfl) dX2_take_23 ?_
    refine gx_iload_n C dX2_take_26 rfl ?_
    refine gx_aload_n C dX2_take_27 rfl ?_
    refine gx_get C fd_X2_take_26 (hG := o1) (hv := by rfl) dX2_take_28 ?_
    refine gx_iload_n C dX2_take_31 rfl ?_
    refine gx_callV (ci := 4) (T := TX5) (N := 2) C (k5_get l D A hs (lidx cs z) hl1) cb_X2_take__X5_get gX2_take_X5_get rfl (hG := (gRow_ob hl1)) rfl rfl (Nat.le_of_ble_eq_true rfl) ⟨Nat.le_refl _, Nat.le_refl _⟩ dX2_take_32 (gx_ki fun r_32 G_32 h_32 => ?_)
    obtain ⟨rfl, rfl⟩ := h_32
    refine gx_iload_n C dX2_take_35 rfl ?_
    refine gx_min C mm_X2_take_mn1 mm_X2_take_mn2 mm_X2_take_mn3 mm_X2_take_mn4 (Nat.le_of_ble_eq_true rfl) (Nat.le_of_ble_eq_true rfl) (Nat.le_refl _) (Nat.le_refl _) dX2_take_36 ?_
    refine gx_callV (ci := 4) (T := TX5) (N := 2) C (k5_set l D A hs (lidx cs z) (pMin (lget ls (lidx cs z)) w) hl1) cb_X2_take__X5_set gX2_take_X5_set rfl (hG := (gRow_ob hl1)) rfl rfl (Nat.le_of_ble_eq_true rfl) ⟨Nat.le_refl _, Nat.le_refl _⟩ dX2_take_39 (gx_kv fun G_39 h_39 => ?_)
    have w2 := gOut_tr w1 (gOut_wd (b := a) (k := 9) h_39.2 (by omega))
    have o2 : G_39 a = _ := (h_39.2 a (by omega)).trans o1
    have hc2 := gRow_fr hc1 h_39.2 (by omega)
    have ha2 := gRow_fr ha1 h_39.2 (by omega)
    have hn2 := gRow_fr h_19.1 h_39.2 (by omega)
    refine gx_iconst (v := 1) C dX2_take_42 (by decide) ?_
    refine gx_zret (mc := 0) C rfl ?_ dX2_take_43
    exact ⟨_, rfl, (if_pos c_10).symm, by rw [pTake, if_pos c_10]; exact ⟨o2, hc2, ha2, hn2, h_39.1⟩, w2⟩
