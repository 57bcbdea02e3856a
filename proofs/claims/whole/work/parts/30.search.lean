def f_hasBest (bc : Int64) : Int32 :=
  if (lg_cmp bc (-1)) = 0 then
    0
  else
    1
def f_isLogged (lc : Nat) (k : Int32) : Int32 :=
  if k < 0 then
    0
  else
    if (nI lc) ≤ k then
      0
    else
      1
def f_isGivenUp (bc x : Int64) : Int32 :=
  if (lg_cmp x (-2)) = 0 then
    1
  else
    if (f_hasBest bc) = 0 then
      0
    else
      if 0 < (lg_cmp bc x) then
        0
      else
        1
def f_forget  : Int32 × Nat × Int64 × Int32 × Nat :=
  (0, 0, (-1), 0, 0)
def f_putWaiting (wh wv : Nat → Int32) (wc : Nat) (hv vl : Int32) : (Nat → Int32) × (Nat → Int32) × Nat :=
  if 11 ≤ (nI wc) then
    (wh, wv, wc)
  else
    ((upd wh wc hv), (upd wv wc vl), (wc + 1))
def f_putIntoLog (lz lc : Nat) (bc : Int64) (lh lw : Nat → Int32) (lb : Nat → Int64) (hv vl : Int32) : Nat × (Nat → Int32) × (Nat → Int32) × (Nat → Int64) :=
  if (nI lz) ≤ (nI lc) then
    (lc, lh, lw, lb)
  else
    ((lc + 1), (upd lh lc hv), (upd lw lc vl), (vp_updL lb lc bc))
set_option maxHeartbeats 4000000 in
set_option maxRecDepth 100000 in
theorem c_hasBest (l : Launch) (dC : Nat → ClassId) (dI : Nat → Nat → Nat) (cI cL cZ : ClassId) (ad : Nat → Nat) (hinj : xI ad 15) (lz : Nat) (nd : Int32) (lc : Nat) (bc : Int64) (bv : Int32) (lh lw : Nat → Int32) (lb : Nat → Int64) (wh wv : Nat → Int32) (wc : Nat) : Met l yX2_hasBest wsX2_hasBest ({ frames := 0, cells := 0, slots := 0, locals := 0 }) (va_Pc [.ref (ad 9)] (fun U => va_P (dC, dI) vwCl [(ad 9, .inr (2, [.int nd, .int (nI lc), .long bc, .int bv, .ref (ad 10), .ref (ad 11), .ref (ad 12), .ref (ad 1), .ref (ad 5), .ref (ad 13), .ref (ad 14), .int (nI wc)])), (ad 10, .inl (cI, lz, .inl lh)), (ad 11, .inl (cI, lz, .inl lw)), (ad 12, .inl (cL, lz, .inr (.inl lb))), (ad 13, .inl (cI, 11, .inl wh)), (ad 14, .inl (cI, 11, .inl wv))] U.heap ∧ va_K (dC, dI) vwCl [(cI, .int), (cL, .long), (cZ, .boolean)] U)) (va_Qi (fun r (_ : Unit) => f_hasBest bc = r) (fun _ _ => True) xN) 0 0 xN := by
  refine Met.ofW (cc := cX2_hasBest) (maxL := 1) (ret := (some .boolean)) (by decide) rfl ?_
  intro p e s m args below meth c s₁ B hml hvv
  obtain ⟨rfl, hP0, hK⟩ := hvv
  have hx := B.exec
  have hb := B.bytes
  have hr := B.returns
  have hts := atoms_spec (ws := wsX2_hasBest) B.pre
  have hown : s.vm.findClass RX2 = some m.cls := findClass_of_methodNamed B.named
  have hlocks := B.notSynchronized
  have hw0 : (.fieldLink RX2 11 "WeightedClauses$Search" "bestCost" "J" : Cond).before _ s = true := hts _ (List.mem_cons_of_mem _ wd_138)
  have hw1 : (.constantLong RX2 9 (-1) : Cond).before _ s = true := hts _ (List.mem_cons_of_mem _ wd_133)
  have hPr : va_P (dC, dI) vwCl [(ad 9, .inr (2, [.int nd, .int (nI lc), .long bc, .int bv, .ref (ad 10), .ref (ad 11), .ref (ad 12), .ref (ad 1), .ref (ad 5), .ref (ad 13), .ref (ad 14), .int (nI wc)])), (ad 10, .inl (cI, lz, .inl lh)), (ad 11, .inl (cI, lz, .inl lw)), (ad 12, .inl (cL, lz, .inr (.inl lb))), (ad 13, .inl (cI, 11, .inl wh)), (ad 14, .inl (cI, 11, .inl wv))] s.heap := hP0.sub [0, 1, 2, 3, 4, 5] rfl
  have hS : va_S xN s.heap s.heap [] := va_S.rf
  have hl := lv_entry [.ref (ad 9)] (n := 1) (Nat.le_of_ble_eq_true rfl)
  rw [lg_entry_eq]
  generalize (lg_sl [.ref (ad 9)] ++ List.replicate (1 - (lg_sl [.ref (ad 9)]).length) Slot.unset).toArray = ls at hl ⊢
  have hl : lv_has ls 1 [(0, .ref (ad 9))] := hl
  have hF := Eq.refl (f_hasBest bc)
  conv at hF => rhs; unfold f_hasBest
  refine lv_aload_n hx hb dX2_hasBest_0 rfl (lv_at hl 0 rfl) ?_
  have hR := xP0 hPr xnN hS
  refine va_get (D := (dC, dI)) (ci := 2) (v := .long bc) (C := RX2) (T := TX2) (N := 12) hx hb hts (xcons inX2) hown hK hR 0 rfl rfl 2 (by decide) hw0 (fun _ h9 => h9) rfl dX2_hasBest_1 ?_
  refine lv_ldc2 hx hb hown hw1 dX2_hasBest_4 ?_
  refine W.lcmp hx hb dX2_hasBest_7 ?_
  refine lv_if_eq (tgt := 15) hx hb dX2_hasBest_8 (by decide) (fun h1 => ?_) (fun h1 => ?_)
  · have hF := hF.trans (if_pos h1)
    refine lv_iconst (v := 0) hx hb dX2_hasBest_15 (by decide) ?_
    exact W.zret (v := 0) hx hb hr rfl (fun t ht hW => ⟨⟨_, (), rfl, hF, trivial⟩, hS.F ht⟩) hS.2.2 dX2_hasBest_16
  · have hF := hF.trans (if_neg h1)
    refine lv_iconst (v := 1) hx hb dX2_hasBest_11 (by decide) ?_
    refine lv_goto (tgt := 16) hx hb dX2_hasBest_12 (by decide) ?_
    exact W.zret (v := 1) hx hb hr rfl (fun t ht hW => ⟨⟨_, (), rfl, hF, trivial⟩, hS.F ht⟩) hS.2.2 dX2_hasBest_16
set_option maxHeartbeats 4000000 in
set_option maxRecDepth 100000 in
theorem c_isLogged (l : Launch) (dC : Nat → ClassId) (dI : Nat → Nat → Nat) (cI cL cZ : ClassId) (ad : Nat → Nat) (hinj : xI ad 15) (lz : Nat) (nd : Int32) (lc : Nat) (bc : Int64) (bv : Int32) (lh lw : Nat → Int32) (lb : Nat → Int64) (wh wv : Nat → Int32) (wc : Nat) (k : Int32) : Met l yX2_isLogged wsX2_isLogged ({ frames := 0, cells := 0, slots := 0, locals := 0 }) (va_Pc [.ref (ad 9), .int k] (fun U => va_P (dC, dI) vwCl [(ad 9, .inr (2, [.int nd, .int (nI lc), .long bc, .int bv, .ref (ad 10), .ref (ad 11), .ref (ad 12), .ref (ad 1), .ref (ad 5), .ref (ad 13), .ref (ad 14), .int (nI wc)])), (ad 10, .inl (cI, lz, .inl lh)), (ad 11, .inl (cI, lz, .inl lw)), (ad 12, .inl (cL, lz, .inr (.inl lb))), (ad 13, .inl (cI, 11, .inl wh)), (ad 14, .inl (cI, 11, .inl wv))] U.heap ∧ va_K (dC, dI) vwCl [(cI, .int), (cL, .long), (cZ, .boolean)] U)) (va_Qi (fun r (_ : Unit) => f_isLogged lc k = r) (fun _ _ => True) xN) 0 0 xN := by
  refine Met.ofW (cc := cX2_isLogged) (maxL := 2) (ret := (some .boolean)) (by decide) rfl ?_
  intro p e s m args below meth c s₁ B hml hvv
  obtain ⟨rfl, hP0, hK⟩ := hvv
  have hx := B.exec
  have hb := B.bytes
  have hr := B.returns
  have hts := atoms_spec (ws := wsX2_isLogged) B.pre
  have hown : s.vm.findClass RX2 = some m.cls := findClass_of_methodNamed B.named
  have hlocks := B.notSynchronized
  have hw0 : (.fieldLink RX2 51 "WeightedClauses$Search" "logCount" "I" : Cond).before _ s = true := hts _ (List.mem_cons_of_mem _ wd_136)
  have hPr : va_P (dC, dI) vwCl [(ad 9, .inr (2, [.int nd, .int (nI lc), .long bc, .int bv, .ref (ad 10), .ref (ad 11), .ref (ad 12), .ref (ad 1), .ref (ad 5), .ref (ad 13), .ref (ad 14), .int (nI wc)])), (ad 10, .inl (cI, lz, .inl lh)), (ad 11, .inl (cI, lz, .inl lw)), (ad 12, .inl (cL, lz, .inr (.inl lb))), (ad 13, .inl (cI, 11, .inl wh)), (ad 14, .inl (cI, 11, .inl wv))] s.heap := hP0.sub [0, 1, 2, 3, 4, 5] rfl
  have hS : va_S xN s.heap s.heap [] := va_S.rf
  have hl := lv_entry [.ref (ad 9), .int k] (n := 2) (Nat.le_of_ble_eq_true rfl)
  rw [lg_entry_eq]
  generalize (lg_sl [.ref (ad 9), .int k] ++ List.replicate (2 - (lg_sl [.ref (ad 9), .int k]).length) Slot.unset).toArray = ls at hl ⊢
  have hl : lv_has ls 2 [(0, .ref (ad 9)), (1, .int k)] := hl
  have hF := Eq.refl (f_isLogged lc k)
  conv at hF => rhs; unfold f_isLogged
  refine lv_iload_n hx hb dX2_isLogged_0 rfl (lv_at hl 1 rfl) ?_
  refine lv_if_lt (tgt := 16) hx hb dX2_isLogged_1 (by decide) (fun h1 => ?_) (fun h1 => ?_)
  · have hF := hF.trans (if_pos h1)
    refine lv_iconst (v := 0) hx hb dX2_isLogged_16 (by decide) ?_
    exact W.zret (v := 0) hx hb hr rfl (fun t ht hW => ⟨⟨_, (), rfl, hF, trivial⟩, hS.F ht⟩) hS.2.2 dX2_isLogged_17
  · have hF := hF.trans (if_neg h1)
    refine lv_iload_n hx hb dX2_isLogged_4 rfl (lv_at hl 1 rfl) ?_
    refine lv_aload_n hx hb dX2_isLogged_5 rfl (lv_at hl 0 rfl) ?_
    have hR := xP0 hPr xnN hS
    refine va_get (D := (dC, dI)) (ci := 2) (v := .int (nI lc)) (C := RX2) (T := TX2) (N := 12) hx hb hts (xcons inX2) hown hK hR 0 rfl rfl 1 (by decide) hw0 (fun _ h9 => h9) rfl dX2_isLogged_6 ?_
    refine lv_icmp_ge (tgt := 16) hx hb dX2_isLogged_9 (by decide) (fun h2 => ?_) (fun h2 => ?_)
    · have hF := hF.trans (if_pos h2)
      refine lv_iconst (v := 0) hx hb dX2_isLogged_16 (by decide) ?_
      exact W.zret (v := 0) hx hb hr rfl (fun t ht hW => ⟨⟨_, (), rfl, hF, trivial⟩, hS.F ht⟩) hS.2.2 dX2_isLogged_17
    · have hF := hF.trans (if_neg h2)
      refine lv_iconst (v := 1) hx hb dX2_isLogged_12 (by decide) ?_
      refine lv_goto (tgt := 17) hx hb dX2_isLogged_13 (by decide) ?_
      exact W.zret (v := 1) hx hb hr rfl (fun t ht hW => ⟨⟨_, (), rfl, hF, trivial⟩, hS.F ht⟩) hS.2.2 dX2_isLogged_17
set_option maxHeartbeats 4000000 in
set_option maxRecDepth 100000 in
theorem c_isGivenUp (l : Launch) (dC : Nat → ClassId) (dI : Nat → Nat → Nat) (cI cL cZ : ClassId) (ad : Nat → Nat) (hinj : xI ad 15) (lz : Nat) (nd : Int32) (lc : Nat) (bc : Int64) (bv : Int32) (lh lw : Nat → Int32) (lb : Nat → Int64) (wh wv : Nat → Int32) (wc : Nat) (x : Int64) : Met l yX2_isGivenUp wsX2_isGivenUp ({ frames := 1, cells := 0, slots := 0, locals := 20 }) (va_Pc [.ref (ad 9), .long x] (fun U => va_P (dC, dI) vwCl [(ad 9, .inr (2, [.int nd, .int (nI lc), .long bc, .int bv, .ref (ad 10), .ref (ad 11), .ref (ad 12), .ref (ad 1), .ref (ad 5), .ref (ad 13), .ref (ad 14), .int (nI wc)])), (ad 10, .inl (cI, lz, .inl lh)), (ad 11, .inl (cI, lz, .inl lw)), (ad 12, .inl (cL, lz, .inr (.inl lb))), (ad 13, .inl (cI, 11, .inl wh)), (ad 14, .inl (cI, 11, .inl wv))] U.heap ∧ va_K (dC, dI) vwCl [(cI, .int), (cL, .long), (cZ, .boolean)] U)) (va_Qi (fun r (_ : Unit) => f_isGivenUp bc x = r) (fun _ _ => True) xN) 0 0 xN := by
  refine Met.ofW (cc := cX2_isGivenUp) (maxL := 3) (ret := (some .boolean)) (by decide) rfl ?_
  intro p e s m args below meth c s₁ B hml hvv
  obtain ⟨rfl, hP0, hK⟩ := hvv
  have hx := B.exec
  have hb := B.bytes
  have hr := B.returns
  have hts := atoms_spec (ws := wsX2_isGivenUp) B.pre
  have hown : s.vm.findClass RX2 = some m.cls := findClass_of_methodNamed B.named
  have hlocks := B.notSynchronized
  have hw0 : (.constantLong RX2 96 (-2) : Cond).before _ s = true := hts _ (List.mem_cons_of_mem _ wd_239)
  have hw1 : (.fieldLink RX2 11 "WeightedClauses$Search" "bestCost" "J" : Cond).before _ s = true := hts _ (List.mem_cons_of_mem _ wd_138)
  have hPr : va_P (dC, dI) vwCl [(ad 9, .inr (2, [.int nd, .int (nI lc), .long bc, .int bv, .ref (ad 10), .ref (ad 11), .ref (ad 12), .ref (ad 1), .ref (ad 5), .ref (ad 13), .ref (ad 14), .int (nI wc)])), (ad 10, .inl (cI, lz, .inl lh)), (ad 11, .inl (cI, lz, .inl lw)), (ad 12, .inl (cL, lz, .inr (.inl lb))), (ad 13, .inl (cI, 11, .inl wh)), (ad 14, .inl (cI, 11, .inl wv))] s.heap := hP0.sub [0, 1, 2, 3, 4, 5] rfl
  have hS : va_S xN s.heap s.heap [] := va_S.rf
  have hl := lv_entry [.ref (ad 9), .long x] (n := 3) (Nat.le_of_ble_eq_true rfl)
  rw [lg_entry_eq]
  generalize (lg_sl [.ref (ad 9), .long x] ++ List.replicate (3 - (lg_sl [.ref (ad 9), .long x]).length) Slot.unset).toArray = ls at hl ⊢
  have hl : lv_has ls 3 [(0, .ref (ad 9)), (1, .long x)] := hl
  have hF := Eq.refl (f_isGivenUp bc x)
  conv at hF => rhs; unfold f_isGivenUp
  refine lv_lload_n hx hb dX2_isGivenUp_0 rfl (lv_at hl 1 rfl) ?_
  refine lv_ldc2 hx hb hown hw0 dX2_isGivenUp_1 ?_
  refine W.lcmp hx hb dX2_isGivenUp_4 ?_
  refine lv_if_eq (tgt := 24) hx hb dX2_isGivenUp_5 (by decide) (fun h1 => ?_) (fun h1 => ?_)
  · have hF := hF.trans (if_pos h1)
    refine lv_iconst (v := 1) hx hb dX2_isGivenUp_24 (by decide) ?_
    refine lv_goto (tgt := 29) hx hb dX2_isGivenUp_25 (by decide) ?_
    exact W.zret (v := 1) hx hb hr rfl (fun t ht hW => ⟨⟨_, (), rfl, hF, trivial⟩, hS.F ht⟩) hS.2.2 dX2_isGivenUp_29
  · have hF := hF.trans (if_neg h1)
    refine lv_aload_n hx hb dX2_isGivenUp_8 rfl (lv_at hl 0 rfl) ?_
    have hR := xP0 hPr xnN hS
    refine xro_i (va_runV (As := []) (rest := []) ⟨hx, hb, hml, hown, hts⟩ (c_hasBest l dC dI cI cL cZ ad hinj lz nd lc bc bv lh lw lb wh wv wc) (xcwV 0 hts wd_243 wd_38 wd_240 wd_241 wd_242 rfl rfl (by decide +kernel) ⟨Nat.le_of_ble_eq_true rfl, Nat.le_of_ble_eq_true rfl⟩) (xpreV (va_recv hK hR rfl (q0 := 0) rfl) hR hK) rfl rfl hl.1 rfl (lv_room (Nat.le_of_ble_eq_true rfl)) dX2_isGivenUp_9 ⟨Nat.le_of_ble_eq_true rfl, Nat.le_of_ble_eq_true rfl⟩) hS (fun H locs hk hS => ?_)
    refine lv_if_eq (tgt := 28) hx hb dX2_isGivenUp_12 (by decide) (fun h2 => ?_) (fun h2 => ?_)
    · have hF := hF.trans (if_pos h2)
      refine lv_iconst (v := 0) hx hb dX2_isGivenUp_28 (by decide) ?_
      exact W.zret (v := 0) hx hb hr rfl (fun t ht hW => ⟨⟨_, (), rfl, hF, trivial⟩, hS.F ht⟩) hS.2.2 dX2_isGivenUp_29
    · have hF := hF.trans (if_neg h2)
      refine lv_aload_n hx hb dX2_isGivenUp_15 rfl (lv_at hl 0 rfl) ?_
      have hR := xP0 hPr xnN hS
      refine va_get (D := (dC, dI)) (ci := 2) (v := .long bc) (C := RX2) (T := TX2) (N := 12) hx hb hts (xcons inX2) hown hK hR 0 rfl rfl 2 (by decide) hw1 (fun _ h9 => h9) rfl dX2_isGivenUp_16 ?_
      refine lv_lload_n hx hb dX2_isGivenUp_19 rfl (lv_at hl 1 rfl) ?_
      refine W.lcmp hx hb dX2_isGivenUp_20 ?_
      refine lv_if_gt (tgt := 28) hx hb dX2_isGivenUp_21 (by decide) (fun h3 => ?_) (fun h3 => ?_)
      · have hF := hF.trans (if_pos h3)
        refine lv_iconst (v := 0) hx hb dX2_isGivenUp_28 (by decide) ?_
        exact W.zret (v := 0) hx hb hr rfl (fun t ht hW => ⟨⟨_, (), rfl, hF, trivial⟩, hS.F ht⟩) hS.2.2 dX2_isGivenUp_29
      · have hF := hF.trans (if_neg h3)
        refine lv_iconst (v := 1) hx hb dX2_isGivenUp_24 (by decide) ?_
        refine lv_goto (tgt := 29) hx hb dX2_isGivenUp_25 (by decide) ?_
        exact W.zret (v := 1) hx hb hr rfl (fun t ht hW => ⟨⟨_, (), rfl, hF, trivial⟩, hS.F ht⟩) hS.2.2 dX2_isGivenUp_29
set_option maxHeartbeats 4000000 in
set_option maxRecDepth 100000 in
theorem c_forget (l : Launch) (dC : Nat → ClassId) (dI : Nat → Nat → Nat) (cI cL cZ : ClassId) (ad : Nat → Nat) (hinj : xI ad 15) (lz : Nat) (nd : Int32) (lc : Nat) (bc : Int64) (bv : Int32) (lh lw : Nat → Int32) (lb : Nat → Int64) (wh wv : Nat → Int32) (wc : Nat) : Met l yX2_forget wsX2_forget ({ frames := 0, cells := 0, slots := 0, locals := 0 }) (va_Pc [.ref (ad 9)] (fun U => va_P (dC, dI) vwCl [(ad 9, .inr (2, [.int nd, .int (nI lc), .long bc, .int bv, .ref (ad 10), .ref (ad 11), .ref (ad 12), .ref (ad 1), .ref (ad 5), .ref (ad 13), .ref (ad 14), .int (nI wc)])), (ad 10, .inl (cI, lz, .inl lh)), (ad 11, .inl (cI, lz, .inl lw)), (ad 12, .inl (cL, lz, .inr (.inl lb))), (ad 13, .inl (cI, 11, .inl wh)), (ad 14, .inl (cI, 11, .inl wv))] U.heap ∧ va_K (dC, dI) vwCl [(cI, .int), (cL, .long), (cZ, .boolean)] U)) (va_Qv (fun u => f_forget = u) (xB (dC, dI) vwCl (fun (u : Int32 × Nat × Int64 × Int32 × Nat) => match u with | (nd1, lc1, bc1, bv1, wc1) => [(ad 9, .inr (2, [.int nd1, .int (nI lc1), .long bc1, .int bv1, .ref (ad 10), .ref (ad 11), .ref (ad 12), .ref (ad 1), .ref (ad 5), .ref (ad 13), .ref (ad 14), .int (nI wc1)])), (ad 10, .inl (cI, lz, .inl lh)), (ad 11, .inl (cI, lz, .inl lw)), (ad 12, .inl (cL, lz, .inr (.inl lb))), (ad 13, .inl (cI, 11, .inl wh)), (ad 14, .inl (cI, 11, .inl wv))])) (xA ad [9, 10, 11, 12, 13, 14])) 0 0 (xA ad [9, 10, 11, 12, 13, 14]) := by
  refine Met.ofW (cc := cX2_forget) (maxL := 1) (ret := none) (by decide) rfl ?_
  intro p e s m args below meth c s₁ B hml hvv
  obtain ⟨rfl, hP0, hK⟩ := hvv
  have hx := B.exec
  have hb := B.bytes
  have hr := B.returns
  have hts := atoms_spec (ws := wsX2_forget) B.pre
  have hown : s.vm.findClass RX2 = some m.cls := findClass_of_methodNamed B.named
  have hlocks := B.notSynchronized
  have hw0 : (.fieldLink RX2 48 "WeightedClauses$Search" "nodeCount" "I" : Cond).before _ s = true := hts _ (List.mem_cons_of_mem _ wd_134)
  have hw1 : (.fieldLink RX2 51 "WeightedClauses$Search" "logCount" "I" : Cond).before _ s = true := hts _ (List.mem_cons_of_mem _ wd_136)
  have hw2 : (.constantLong RX2 9 (-1) : Cond).before _ s = true := hts _ (List.mem_cons_of_mem _ wd_133)
  have hw3 : (.fieldLink RX2 11 "WeightedClauses$Search" "bestCost" "J" : Cond).before _ s = true := hts _ (List.mem_cons_of_mem _ wd_138)
  have hw4 : (.fieldLink RX2 54 "WeightedClauses$Search" "bestValues" "I" : Cond).before _ s = true := hts _ (List.mem_cons_of_mem _ wd_140)
  have hw5 : (.fieldLink RX2 57 "WeightedClauses$Search" "waitingCount" "I" : Cond).before _ s = true := hts _ (List.mem_cons_of_mem _ wd_152)
  have hP : va_P (dC, dI) vwCl [(ad 9, .inr (2, [.int nd, .int (nI lc), .long bc, .int bv, .ref (ad 10), .ref (ad 11), .ref (ad 12), .ref (ad 1), .ref (ad 5), .ref (ad 13), .ref (ad 14), .int (nI wc)])), (ad 10, .inl (cI, lz, .inl lh)), (ad 11, .inl (cI, lz, .inl lw)), (ad 12, .inl (cL, lz, .inr (.inl lb))), (ad 13, .inl (cI, 11, .inl wh)), (ad 14, .inl (cI, 11, .inl wv))] s.heap := hP0.sub [0, 1, 2, 3, 4, 5] rfl
  have hS : va_S (xA ad [9, 10, 11, 12, 13, 14]) s.heap s.heap [] := va_S.rf
  have hl := lv_entry [.ref (ad 9)] (n := 1) (Nat.le_of_ble_eq_true rfl)
  rw [lg_entry_eq]
  generalize (lg_sl [.ref (ad 9)] ++ List.replicate (1 - (lg_sl [.ref (ad 9)]).length) Slot.unset).toArray = ls at hl ⊢
  have hl : lv_has ls 1 [(0, .ref (ad 9))] := hl
  have hF := Eq.refl f_forget
  conv at hF => rhs; unfold f_forget
  refine lv_aload_n hx hb dX2_forget_0 rfl (lv_at hl 0 rfl) ?_
  refine lv_iconst (v := 0) hx hb dX2_forget_1 (by decide) ?_
  refine va_put (D := (dC, dI)) (ci := 2) (v := .int 0) (ty := .int) (C := RX2) (T := TX2) (N := 12) hx hb hts (xcons inX2) tyX2 tyX2_ok nX2 hown hK hP (xD hinj [9, 10, 11, 12, 13, 14] rfl (by decide) (by decide)) hS 0 rfl rfl 0 (by decide) hw0 (fun _ h9 => h9) rfl (by decide +kernel) rfl rfl (Nat.le_of_ble_eq_true rfl) dX2_forget_2 (fun H locs hP _ hS => ?_)
  have hP : va_P (dC, dI) vwCl [(ad 9, .inr (2, [.int 0, .int (nI lc), .long bc, .int bv, .ref (ad 10), .ref (ad 11), .ref (ad 12), .ref (ad 1), .ref (ad 5), .ref (ad 13), .ref (ad 14), .int (nI wc)])), (ad 10, .inl (cI, lz, .inl lh)), (ad 11, .inl (cI, lz, .inl lw)), (ad 12, .inl (cL, lz, .inr (.inl lb))), (ad 13, .inl (cI, 11, .inl wh)), (ad 14, .inl (cI, 11, .inl wv))] H := hP
  refine lv_aload_n hx hb dX2_forget_5 rfl (lv_at hl 0 rfl) ?_
  refine lv_iconst (v := 0) hx hb dX2_forget_6 (by decide) ?_
  refine va_put (D := (dC, dI)) (ci := 2) (v := .int 0) (ty := .int) (C := RX2) (T := TX2) (N := 12) hx hb hts (xcons inX2) tyX2 tyX2_ok nX2 hown hK hP (xD hinj [9, 10, 11, 12, 13, 14] rfl (by decide) (by decide)) hS 0 rfl rfl 1 (by decide) hw1 (fun _ h9 => h9) rfl (by decide +kernel) rfl rfl (Nat.le_of_ble_eq_true rfl) dX2_forget_7 (fun H locs hP _ hS => ?_)
  have hP : va_P (dC, dI) vwCl [(ad 9, .inr (2, [.int 0, .int 0, .long bc, .int bv, .ref (ad 10), .ref (ad 11), .ref (ad 12), .ref (ad 1), .ref (ad 5), .ref (ad 13), .ref (ad 14), .int (nI wc)])), (ad 10, .inl (cI, lz, .inl lh)), (ad 11, .inl (cI, lz, .inl lw)), (ad 12, .inl (cL, lz, .inr (.inl lb))), (ad 13, .inl (cI, 11, .inl wh)), (ad 14, .inl (cI, 11, .inl wv))] H := hP
  refine lv_aload_n hx hb dX2_forget_10 rfl (lv_at hl 0 rfl) ?_
  refine lv_ldc2 hx hb hown hw2 dX2_forget_11 ?_
  refine va_put (D := (dC, dI)) (ci := 2) (v := .long (-1)) (ty := .long) (C := RX2) (T := TX2) (N := 12) hx hb hts (xcons inX2) tyX2 tyX2_ok nX2 hown hK hP (xD hinj [9, 10, 11, 12, 13, 14] rfl (by decide) (by decide)) hS 0 rfl rfl 2 (by decide) hw3 (fun _ h9 => h9) rfl (by decide +kernel) rfl rfl (Nat.le_of_ble_eq_true rfl) dX2_forget_14 (fun H locs hP _ hS => ?_)
  have hP : va_P (dC, dI) vwCl [(ad 9, .inr (2, [.int 0, .int 0, .long (-1), .int bv, .ref (ad 10), .ref (ad 11), .ref (ad 12), .ref (ad 1), .ref (ad 5), .ref (ad 13), .ref (ad 14), .int (nI wc)])), (ad 10, .inl (cI, lz, .inl lh)), (ad 11, .inl (cI, lz, .inl lw)), (ad 12, .inl (cL, lz, .inr (.inl lb))), (ad 13, .inl (cI, 11, .inl wh)), (ad 14, .inl (cI, 11, .inl wv))] H := hP
  refine lv_aload_n hx hb dX2_forget_17 rfl (lv_at hl 0 rfl) ?_
  refine lv_iconst (v := 0) hx hb dX2_forget_18 (by decide) ?_
  refine va_put (D := (dC, dI)) (ci := 2) (v := .int 0) (ty := .int) (C := RX2) (T := TX2) (N := 12) hx hb hts (xcons inX2) tyX2 tyX2_ok nX2 hown hK hP (xD hinj [9, 10, 11, 12, 13, 14] rfl (by decide) (by decide)) hS 0 rfl rfl 3 (by decide) hw4 (fun _ h9 => h9) rfl (by decide +kernel) rfl rfl (Nat.le_of_ble_eq_true rfl) dX2_forget_19 (fun H locs hP _ hS => ?_)
  have hP : va_P (dC, dI) vwCl [(ad 9, .inr (2, [.int 0, .int 0, .long (-1), .int 0, .ref (ad 10), .ref (ad 11), .ref (ad 12), .ref (ad 1), .ref (ad 5), .ref (ad 13), .ref (ad 14), .int (nI wc)])), (ad 10, .inl (cI, lz, .inl lh)), (ad 11, .inl (cI, lz, .inl lw)), (ad 12, .inl (cL, lz, .inr (.inl lb))), (ad 13, .inl (cI, 11, .inl wh)), (ad 14, .inl (cI, 11, .inl wv))] H := hP
  refine lv_aload_n hx hb dX2_forget_22 rfl (lv_at hl 0 rfl) ?_
  refine lv_iconst (v := 0) hx hb dX2_forget_23 (by decide) ?_
  refine va_put (D := (dC, dI)) (ci := 2) (v := .int 0) (ty := .int) (C := RX2) (T := TX2) (N := 12) hx hb hts (xcons inX2) tyX2 tyX2_ok nX2 hown hK hP (xD hinj [9, 10, 11, 12, 13, 14] rfl (by decide) (by decide)) hS 0 rfl rfl 11 (by decide) hw5 (fun _ h9 => h9) rfl (by decide +kernel) rfl rfl (Nat.le_of_ble_eq_true rfl) dX2_forget_24 (fun H locs hP _ hS => ?_)
  have hP : va_P (dC, dI) vwCl [(ad 9, .inr (2, [.int 0, .int 0, .long (-1), .int 0, .ref (ad 10), .ref (ad 11), .ref (ad 12), .ref (ad 1), .ref (ad 5), .ref (ad 13), .ref (ad 14), .int 0])), (ad 10, .inl (cI, lz, .inl lh)), (ad 11, .inl (cI, lz, .inl lw)), (ad 12, .inl (cL, lz, .inr (.inl lb))), (ad 13, .inl (cI, 11, .inl wh)), (ad 14, .inl (cI, 11, .inl wv))] H := hP
  exact W.vret hx hb hr (fun t ht hW => ⟨⟨(0, 0, (-1), 0, 0), rfl, hF, xBi ht hP⟩, hS.F ht⟩) hS.2.2 dX2_forget_27
set_option maxHeartbeats 4000000 in
set_option maxRecDepth 100000 in
theorem c_putWaiting (l : Launch) (dC : Nat → ClassId) (dI : Nat → Nat → Nat) (cI cL cZ : ClassId) (ad : Nat → Nat) (hinj : xI ad 15) (lz : Nat) (nd : Int32) (lc : Nat) (bc : Int64) (bv : Int32) (lh lw : Nat → Int32) (lb : Nat → Int64) (wh wv : Nat → Int32) (wc : Nat) (hwc : wc ≤ 11) (hv vl : Int32) : Met l yX2_putWaiting wsX2_putWaiting ({ frames := 0, cells := 0, slots := 0, locals := 0 }) (va_Pc [.ref (ad 9), .int hv, .int vl] (fun U => va_P (dC, dI) vwCl [(ad 9, .inr (2, [.int nd, .int (nI lc), .long bc, .int bv, .ref (ad 10), .ref (ad 11), .ref (ad 12), .ref (ad 1), .ref (ad 5), .ref (ad 13), .ref (ad 14), .int (nI wc)])), (ad 10, .inl (cI, lz, .inl lh)), (ad 11, .inl (cI, lz, .inl lw)), (ad 12, .inl (cL, lz, .inr (.inl lb))), (ad 13, .inl (cI, 11, .inl wh)), (ad 14, .inl (cI, 11, .inl wv))] U.heap ∧ va_K (dC, dI) vwCl [(cI, .int), (cL, .long), (cZ, .boolean)] U)) (va_Qv (fun u => f_putWaiting wh wv wc hv vl = u) (xB (dC, dI) vwCl (fun (u : (Nat → Int32) × (Nat → Int32) × Nat) => match u with | (wh1, wv1, wc1) => [(ad 9, .inr (2, [.int nd, .int (nI lc), .long bc, .int bv, .ref (ad 10), .ref (ad 11), .ref (ad 12), .ref (ad 1), .ref (ad 5), .ref (ad 13), .ref (ad 14), .int (nI wc1)])), (ad 10, .inl (cI, lz, .inl lh)), (ad 11, .inl (cI, lz, .inl lw)), (ad 12, .inl (cL, lz, .inr (.inl lb))), (ad 13, .inl (cI, 11, .inl wh1)), (ad 14, .inl (cI, 11, .inl wv1))])) (xA ad [9, 10, 11, 12, 13, 14])) 0 0 (xA ad [9, 10, 11, 12, 13, 14]) := by
  refine Met.ofW (cc := cX2_putWaiting) (maxL := 3) (ret := none) (by decide) rfl ?_
  intro p e s m args below meth c s₁ B hml hvv
  obtain ⟨rfl, hP0, hK⟩ := hvv
  have hx := B.exec
  have hb := B.bytes
  have hr := B.returns
  have hts := atoms_spec (ws := wsX2_putWaiting) B.pre
  have hown : s.vm.findClass RX2 = some m.cls := findClass_of_methodNamed B.named
  have hlocks := B.notSynchronized
  have hw0 : (.fieldLink RX2 57 "WeightedClauses$Search" "waitingCount" "I" : Cond).before _ s = true := hts _ (List.mem_cons_of_mem _ wd_152)
  have hw1 : (.fieldLink RX2 17 "WeightedClauses$Search" "waitingHave" "[I" : Cond).before _ s = true := hts _ (List.mem_cons_of_mem _ wd_150)
  have hw2 : (.fieldLink RX2 21 "WeightedClauses$Search" "waitingValues" "[I" : Cond).before _ s = true := hts _ (List.mem_cons_of_mem _ wd_151)
  have hP : va_P (dC, dI) vwCl [(ad 9, .inr (2, [.int nd, .int (nI lc), .long bc, .int bv, .ref (ad 10), .ref (ad 11), .ref (ad 12), .ref (ad 1), .ref (ad 5), .ref (ad 13), .ref (ad 14), .int (nI wc)])), (ad 10, .inl (cI, lz, .inl lh)), (ad 11, .inl (cI, lz, .inl lw)), (ad 12, .inl (cL, lz, .inr (.inl lb))), (ad 13, .inl (cI, 11, .inl wh)), (ad 14, .inl (cI, 11, .inl wv))] s.heap := hP0.sub [0, 1, 2, 3, 4, 5] rfl
  have hS : va_S (xA ad [9, 10, 11, 12, 13, 14]) s.heap s.heap [] := va_S.rf
  have hl := lv_entry [.ref (ad 9), .int hv, .int vl] (n := 3) (Nat.le_of_ble_eq_true rfl)
  rw [lg_entry_eq]
  generalize (lg_sl [.ref (ad 9), .int hv, .int vl] ++ List.replicate (3 - (lg_sl [.ref (ad 9), .int hv, .int vl]).length) Slot.unset).toArray = ls at hl ⊢
  have hl : lv_has ls 3 [(0, .ref (ad 9)), (1, .int hv), (2, .int vl)] := hl
  have hF := Eq.refl (f_putWaiting wh wv wc hv vl)
  conv at hF => rhs; unfold f_putWaiting
  refine lv_aload_n hx hb dX2_putWaiting_0 rfl (lv_at hl 0 rfl) ?_
  refine va_get (D := (dC, dI)) (ci := 2) (v := .int (nI wc)) (C := RX2) (T := TX2) (N := 12) hx hb hts (xcons inX2) hown hK hP 0 rfl rfl 11 (by decide) hw0 (fun _ h9 => h9) rfl dX2_putWaiting_1 ?_
  refine lv_aload_n hx hb dX2_putWaiting_4 rfl (lv_at hl 0 rfl) ?_
  refine va_get (D := (dC, dI)) (ci := 2) (v := .ref (ad 13)) (C := RX2) (T := TX2) (N := 12) hx hb hts (xcons inX2) hown hK hP 0 rfl rfl 9 (by decide) hw1 (fun _ h9 => h9) rfl dX2_putWaiting_5 ?_
  refine va_alen (v := 11) hx hb hK hP 4 0 rfl rfl rfl dX2_putWaiting_8 ?_
  refine lv_icmp_ge (tgt := 42) hx hb dX2_putWaiting_9 (by decide) (fun h1 => ?_) (fun h1 => ?_)
  · have hF := hF.trans (if_pos h1)
    exact W.vret hx hb hr (fun t ht hW => ⟨⟨(wh, wv, wc), rfl, hF, xBi ht hP⟩, hS.F ht⟩) hS.2.2 dX2_putWaiting_42
  · have hF := hF.trans (if_neg h1)
    have hlt := xnle 11 h1 (by omega) (by decide)
    refine lv_aload_n hx hb dX2_putWaiting_12 rfl (lv_at hl 0 rfl) ?_
    refine va_get (D := (dC, dI)) (ci := 2) (v := .ref (ad 13)) (C := RX2) (T := TX2) (N := 12) hx hb hts (xcons inX2) hown hK hP 0 rfl rfl 9 (by decide) hw1 (fun _ h9 => h9) rfl dX2_putWaiting_13 ?_
    refine lv_aload_n hx hb dX2_putWaiting_16 rfl (lv_at hl 0 rfl) ?_
    refine va_get (D := (dC, dI)) (ci := 2) (v := .int (nI wc)) (C := RX2) (T := TX2) (N := 12) hx hb hts (xcons inX2) hown hK hP 0 rfl rfl 11 (by decide) hw0 (fun _ h9 => h9) rfl dX2_putWaiting_17 ?_
    refine lv_iload_n hx hb dX2_putWaiting_20 rfl (lv_at hl 1 rfl) ?_
    refine xr_iast hx hb hK hP (xD hinj [9, 10, 11, 12, 13, 14] rfl (by decide) (by decide)) hS 4 0 rfl rfl wc (by omega) (by omega) dX2_putWaiting_21 (fun H locs hP hS => ?_)
    have hP : va_P (dC, dI) vwCl [(ad 9, .inr (2, [.int nd, .int (nI lc), .long bc, .int bv, .ref (ad 10), .ref (ad 11), .ref (ad 12), .ref (ad 1), .ref (ad 5), .ref (ad 13), .ref (ad 14), .int (nI wc)])), (ad 10, .inl (cI, lz, .inl lh)), (ad 11, .inl (cI, lz, .inl lw)), (ad 12, .inl (cL, lz, .inr (.inl lb))), (ad 13, .inl (cI, 11, .inl (upd wh wc hv))), (ad 14, .inl (cI, 11, .inl wv))] H := hP
    refine lv_aload_n hx hb dX2_putWaiting_22 rfl (lv_at hl 0 rfl) ?_
    refine va_get (D := (dC, dI)) (ci := 2) (v := .ref (ad 14)) (C := RX2) (T := TX2) (N := 12) hx hb hts (xcons inX2) hown hK hP 0 rfl rfl 10 (by decide) hw2 (fun _ h9 => h9) rfl dX2_putWaiting_23 ?_
    refine lv_aload_n hx hb dX2_putWaiting_26 rfl (lv_at hl 0 rfl) ?_
    refine va_get (D := (dC, dI)) (ci := 2) (v := .int (nI wc)) (C := RX2) (T := TX2) (N := 12) hx hb hts (xcons inX2) hown hK hP 0 rfl rfl 11 (by decide) hw0 (fun _ h9 => h9) rfl dX2_putWaiting_27 ?_
    refine lv_iload_n hx hb dX2_putWaiting_30 rfl (lv_at hl 2 rfl) ?_
    refine xr_iast hx hb hK hP (xD hinj [9, 10, 11, 12, 13, 14] rfl (by decide) (by decide)) hS 5 0 rfl rfl wc (by omega) (by omega) dX2_putWaiting_31 (fun H locs hP hS => ?_)
    have hP : va_P (dC, dI) vwCl [(ad 9, .inr (2, [.int nd, .int (nI lc), .long bc, .int bv, .ref (ad 10), .ref (ad 11), .ref (ad 12), .ref (ad 1), .ref (ad 5), .ref (ad 13), .ref (ad 14), .int (nI wc)])), (ad 10, .inl (cI, lz, .inl lh)), (ad 11, .inl (cI, lz, .inl lw)), (ad 12, .inl (cL, lz, .inr (.inl lb))), (ad 13, .inl (cI, 11, .inl (upd wh wc hv))), (ad 14, .inl (cI, 11, .inl (upd wv wc vl)))] H := hP
    refine lv_aload_n hx hb dX2_putWaiting_32 rfl (lv_at hl 0 rfl) ?_
    refine lv_dup hx hb dX2_putWaiting_33 rfl ?_
    refine va_get (D := (dC, dI)) (ci := 2) (v := .int (nI wc)) (C := RX2) (T := TX2) (N := 12) hx hb hts (xcons inX2) hown hK hP 0 rfl rfl 11 (by decide) hw0 (fun _ h9 => h9) rfl dX2_putWaiting_34 ?_
    refine lv_iconst (v := 1) hx hb dX2_putWaiting_37 (by decide) ?_
    refine xr_add1 hx hb dX2_putWaiting_38 ?_
    refine va_put (D := (dC, dI)) (ci := 2) (v := .int (nI (wc + 1))) (ty := .int) (C := RX2) (T := TX2) (N := 12) hx hb hts (xcons inX2) tyX2 tyX2_ok nX2 hown hK hP (xD hinj [9, 10, 11, 12, 13, 14] rfl (by decide) (by decide)) hS 0 rfl rfl 11 (by decide) hw0 (fun _ h9 => h9) rfl (by decide +kernel) rfl rfl (Nat.le_of_ble_eq_true rfl) dX2_putWaiting_39 (fun H locs hP _ hS => ?_)
    have hP : va_P (dC, dI) vwCl [(ad 9, .inr (2, [.int nd, .int (nI lc), .long bc, .int bv, .ref (ad 10), .ref (ad 11), .ref (ad 12), .ref (ad 1), .ref (ad 5), .ref (ad 13), .ref (ad 14), .int (nI (wc + 1))])), (ad 10, .inl (cI, lz, .inl lh)), (ad 11, .inl (cI, lz, .inl lw)), (ad 12, .inl (cL, lz, .inr (.inl lb))), (ad 13, .inl (cI, 11, .inl (upd wh wc hv))), (ad 14, .inl (cI, 11, .inl (upd wv wc vl)))] H := hP
    exact W.vret hx hb hr (fun t ht hW => ⟨⟨((upd wh wc hv), (upd wv wc vl), (wc + 1)), rfl, hF, xBi ht hP⟩, hS.F ht⟩) hS.2.2 dX2_putWaiting_42
set_option maxHeartbeats 4000000 in
set_option maxRecDepth 100000 in
theorem c_putIntoLog (l : Launch) (dC : Nat → ClassId) (dI : Nat → Nat → Nat) (cI cL cZ : ClassId) (ad : Nat → Nat) (hinj : xI ad 15) (lz : Nat) (nd : Int32) (lc : Nat) (bc : Int64) (bv : Int32) (lh lw : Nat → Int32) (lb : Nat → Int64) (wh wv : Nat → Int32) (wc : Nat) (hlz : lz ≤ 512) (hlc : lc ≤ lz) (hv vl : Int32) : Met l yX2_putIntoLog wsX2_putIntoLog ({ frames := 0, cells := 0, slots := 0, locals := 0 }) (va_Pc [.ref (ad 9), .int hv, .int vl] (fun U => va_P (dC, dI) vwCl [(ad 9, .inr (2, [.int nd, .int (nI lc), .long bc, .int bv, .ref (ad 10), .ref (ad 11), .ref (ad 12), .ref (ad 1), .ref (ad 5), .ref (ad 13), .ref (ad 14), .int (nI wc)])), (ad 10, .inl (cI, lz, .inl lh)), (ad 11, .inl (cI, lz, .inl lw)), (ad 12, .inl (cL, lz, .inr (.inl lb))), (ad 13, .inl (cI, 11, .inl wh)), (ad 14, .inl (cI, 11, .inl wv))] U.heap ∧ va_K (dC, dI) vwCl [(cI, .int), (cL, .long), (cZ, .boolean)] U)) (va_Qv (fun u => f_putIntoLog lz lc bc lh lw lb hv vl = u) (xB (dC, dI) vwCl (fun (u : Nat × (Nat → Int32) × (Nat → Int32) × (Nat → Int64)) => match u with | (lc1, lh1, lw1, lb1) => [(ad 9, .inr (2, [.int nd, .int (nI lc1), .long bc, .int bv, .ref (ad 10), .ref (ad 11), .ref (ad 12), .ref (ad 1), .ref (ad 5), .ref (ad 13), .ref (ad 14), .int (nI wc)])), (ad 10, .inl (cI, lz, .inl lh1)), (ad 11, .inl (cI, lz, .inl lw1)), (ad 12, .inl (cL, lz, .inr (.inl lb1))), (ad 13, .inl (cI, 11, .inl wh)), (ad 14, .inl (cI, 11, .inl wv))])) (xA ad [9, 10, 11, 12, 13, 14])) 0 0 (xA ad [9, 10, 11, 12, 13, 14]) := by
  refine Met.ofW (cc := cX2_putIntoLog) (maxL := 3) (ret := none) (by decide) rfl ?_
  intro p e s m args below meth c s₁ B hml hvv
  obtain ⟨rfl, hP0, hK⟩ := hvv
  have hx := B.exec
  have hb := B.bytes
  have hr := B.returns
  have hts := atoms_spec (ws := wsX2_putIntoLog) B.pre
  have hown : s.vm.findClass RX2 = some m.cls := findClass_of_methodNamed B.named
  have hlocks := B.notSynchronized
  have hw0 : (.fieldLink RX2 51 "WeightedClauses$Search" "logCount" "I" : Cond).before _ s = true := hts _ (List.mem_cons_of_mem _ wd_136)
  have hw1 : (.fieldLink RX2 38 "WeightedClauses$Search" "logHave" "[I" : Cond).before _ s = true := hts _ (List.mem_cons_of_mem _ wd_142)
  have hw2 : (.fieldLink RX2 41 "WeightedClauses$Search" "logValues" "[I" : Cond).before _ s = true := hts _ (List.mem_cons_of_mem _ wd_144)
  have hw3 : (.fieldLink RX2 44 "WeightedClauses$Search" "logBest" "[J" : Cond).before _ s = true := hts _ (List.mem_cons_of_mem _ wd_146)
  have hw4 : (.fieldLink RX2 11 "WeightedClauses$Search" "bestCost" "J" : Cond).before _ s = true := hts _ (List.mem_cons_of_mem _ wd_138)
  have hP : va_P (dC, dI) vwCl [(ad 9, .inr (2, [.int nd, .int (nI lc), .long bc, .int bv, .ref (ad 10), .ref (ad 11), .ref (ad 12), .ref (ad 1), .ref (ad 5), .ref (ad 13), .ref (ad 14), .int (nI wc)])), (ad 10, .inl (cI, lz, .inl lh)), (ad 11, .inl (cI, lz, .inl lw)), (ad 12, .inl (cL, lz, .inr (.inl lb))), (ad 13, .inl (cI, 11, .inl wh)), (ad 14, .inl (cI, 11, .inl wv))] s.heap := hP0.sub [0, 1, 2, 3, 4, 5] rfl
  have hS : va_S (xA ad [9, 10, 11, 12, 13, 14]) s.heap s.heap [] := va_S.rf
  have hl := lv_entry [.ref (ad 9), .int hv, .int vl] (n := 3) (Nat.le_of_ble_eq_true rfl)
  rw [lg_entry_eq]
  generalize (lg_sl [.ref (ad 9), .int hv, .int vl] ++ List.replicate (3 - (lg_sl [.ref (ad 9), .int hv, .int vl]).length) Slot.unset).toArray = ls at hl ⊢
  have hl : lv_has ls 3 [(0, .ref (ad 9)), (1, .int hv), (2, .int vl)] := hl
  have hF := Eq.refl (f_putIntoLog lz lc bc lh lw lb hv vl)
  conv at hF => rhs; unfold f_putIntoLog
  refine lv_aload_n hx hb dX2_putIntoLog_0 rfl (lv_at hl 0 rfl) ?_
  refine va_get (D := (dC, dI)) (ci := 2) (v := .int (nI lc)) (C := RX2) (T := TX2) (N := 12) hx hb hts (xcons inX2) hown hK hP 0 rfl rfl 1 (by decide) hw0 (fun _ h9 => h9) rfl dX2_putIntoLog_1 ?_
  refine lv_aload_n hx hb dX2_putIntoLog_4 rfl (lv_at hl 0 rfl) ?_
  refine va_get (D := (dC, dI)) (ci := 2) (v := .ref (ad 10)) (C := RX2) (T := TX2) (N := 12) hx hb hts (xcons inX2) hown hK hP 0 rfl rfl 4 (by decide) hw1 (fun _ h9 => h9) rfl dX2_putIntoLog_5 ?_
  refine va_alen (v := (nI lz)) hx hb hK hP 1 0 rfl rfl rfl dX2_putIntoLog_8 ?_
  refine lv_icmp_ge (tgt := 55) hx hb dX2_putIntoLog_9 (by decide) (fun h1 => ?_) (fun h1 => ?_)
  · have hF := hF.trans (if_pos h1)
    exact W.vret hx hb hr (fun t ht hW => ⟨⟨(lc, lh, lw, lb), rfl, hF, xBi ht hP⟩, hS.F ht⟩) hS.2.2 dX2_putIntoLog_55
  · have hF := hF.trans (if_neg h1)
    have hlt := xnle lz h1 (by omega) (by omega)
    refine lv_aload_n hx hb dX2_putIntoLog_12 rfl (lv_at hl 0 rfl) ?_
    refine va_get (D := (dC, dI)) (ci := 2) (v := .ref (ad 10)) (C := RX2) (T := TX2) (N := 12) hx hb hts (xcons inX2) hown hK hP 0 rfl rfl 4 (by decide) hw1 (fun _ h9 => h9) rfl dX2_putIntoLog_13 ?_
    refine lv_aload_n hx hb dX2_putIntoLog_16 rfl (lv_at hl 0 rfl) ?_
    refine va_get (D := (dC, dI)) (ci := 2) (v := .int (nI lc)) (C := RX2) (T := TX2) (N := 12) hx hb hts (xcons inX2) hown hK hP 0 rfl rfl 1 (by decide) hw0 (fun _ h9 => h9) rfl dX2_putIntoLog_17 ?_
    refine lv_iload_n hx hb dX2_putIntoLog_20 rfl (lv_at hl 1 rfl) ?_
    refine xr_iast hx hb hK hP (xD hinj [9, 10, 11, 12, 13, 14] rfl (by decide) (by decide)) hS 1 0 rfl rfl lc (by omega) (by omega) dX2_putIntoLog_21 (fun H locs hP hS => ?_)
    have hP : va_P (dC, dI) vwCl [(ad 9, .inr (2, [.int nd, .int (nI lc), .long bc, .int bv, .ref (ad 10), .ref (ad 11), .ref (ad 12), .ref (ad 1), .ref (ad 5), .ref (ad 13), .ref (ad 14), .int (nI wc)])), (ad 10, .inl (cI, lz, .inl (upd lh lc hv))), (ad 11, .inl (cI, lz, .inl lw)), (ad 12, .inl (cL, lz, .inr (.inl lb))), (ad 13, .inl (cI, 11, .inl wh)), (ad 14, .inl (cI, 11, .inl wv))] H := hP
    refine lv_aload_n hx hb dX2_putIntoLog_22 rfl (lv_at hl 0 rfl) ?_
    refine va_get (D := (dC, dI)) (ci := 2) (v := .ref (ad 11)) (C := RX2) (T := TX2) (N := 12) hx hb hts (xcons inX2) hown hK hP 0 rfl rfl 5 (by decide) hw2 (fun _ h9 => h9) rfl dX2_putIntoLog_23 ?_
    refine lv_aload_n hx hb dX2_putIntoLog_26 rfl (lv_at hl 0 rfl) ?_
    refine va_get (D := (dC, dI)) (ci := 2) (v := .int (nI lc)) (C := RX2) (T := TX2) (N := 12) hx hb hts (xcons inX2) hown hK hP 0 rfl rfl 1 (by decide) hw0 (fun _ h9 => h9) rfl dX2_putIntoLog_27 ?_
    refine lv_iload_n hx hb dX2_putIntoLog_30 rfl (lv_at hl 2 rfl) ?_
    refine xr_iast hx hb hK hP (xD hinj [9, 10, 11, 12, 13, 14] rfl (by decide) (by decide)) hS 2 0 rfl rfl lc (by omega) (by omega) dX2_putIntoLog_31 (fun H locs hP hS => ?_)
    have hP : va_P (dC, dI) vwCl [(ad 9, .inr (2, [.int nd, .int (nI lc), .long bc, .int bv, .ref (ad 10), .ref (ad 11), .ref (ad 12), .ref (ad 1), .ref (ad 5), .ref (ad 13), .ref (ad 14), .int (nI wc)])), (ad 10, .inl (cI, lz, .inl (upd lh lc hv))), (ad 11, .inl (cI, lz, .inl (upd lw lc vl))), (ad 12, .inl (cL, lz, .inr (.inl lb))), (ad 13, .inl (cI, 11, .inl wh)), (ad 14, .inl (cI, 11, .inl wv))] H := hP
    refine lv_aload_n hx hb dX2_putIntoLog_32 rfl (lv_at hl 0 rfl) ?_
    refine va_get (D := (dC, dI)) (ci := 2) (v := .ref (ad 12)) (C := RX2) (T := TX2) (N := 12) hx hb hts (xcons inX2) hown hK hP 0 rfl rfl 6 (by decide) hw3 (fun _ h9 => h9) rfl dX2_putIntoLog_33 ?_
    refine lv_aload_n hx hb dX2_putIntoLog_36 rfl (lv_at hl 0 rfl) ?_
    refine va_get (D := (dC, dI)) (ci := 2) (v := .int (nI lc)) (C := RX2) (T := TX2) (N := 12) hx hb hts (xcons inX2) hown hK hP 0 rfl rfl 1 (by decide) hw0 (fun _ h9 => h9) rfl dX2_putIntoLog_37 ?_
    refine lv_aload_n hx hb dX2_putIntoLog_40 rfl (lv_at hl 0 rfl) ?_
    refine va_get (D := (dC, dI)) (ci := 2) (v := .long bc) (C := RX2) (T := TX2) (N := 12) hx hb hts (xcons inX2) hown hK hP 0 rfl rfl 2 (by decide) hw4 (fun _ h9 => h9) rfl dX2_putIntoLog_41 ?_
    refine xr_last hx hb hK hP (xD hinj [9, 10, 11, 12, 13, 14] rfl (by decide) (by decide)) hS 3 1 rfl rfl lc (by omega) (by omega) dX2_putIntoLog_44 (fun H locs hP hS => ?_)
    have hP : va_P (dC, dI) vwCl [(ad 9, .inr (2, [.int nd, .int (nI lc), .long bc, .int bv, .ref (ad 10), .ref (ad 11), .ref (ad 12), .ref (ad 1), .ref (ad 5), .ref (ad 13), .ref (ad 14), .int (nI wc)])), (ad 10, .inl (cI, lz, .inl (upd lh lc hv))), (ad 11, .inl (cI, lz, .inl (upd lw lc vl))), (ad 12, .inl (cL, lz, .inr (.inl (vp_updL lb lc bc)))), (ad 13, .inl (cI, 11, .inl wh)), (ad 14, .inl (cI, 11, .inl wv))] H := hP
    refine lv_aload_n hx hb dX2_putIntoLog_45 rfl (lv_at hl 0 rfl) ?_
    refine lv_dup hx hb dX2_putIntoLog_46 rfl ?_
    refine va_get (D := (dC, dI)) (ci := 2) (v := .int (nI lc)) (C := RX2) (T := TX2) (N := 12) hx hb hts (xcons inX2) hown hK hP 0 rfl rfl 1 (by decide) hw0 (fun _ h9 => h9) rfl dX2_putIntoLog_47 ?_
    refine lv_iconst (v := 1) hx hb dX2_putIntoLog_50 (by decide) ?_
    refine xr_add1 hx hb dX2_putIntoLog_51 ?_
    refine va_put (D := (dC, dI)) (ci := 2) (v := .int (nI (lc + 1))) (ty := .int) (C := RX2) (T := TX2) (N := 12) hx hb hts (xcons inX2) tyX2 tyX2_ok nX2 hown hK hP (xD hinj [9, 10, 11, 12, 13, 14] rfl (by decide) (by decide)) hS 0 rfl rfl 1 (by decide) hw0 (fun _ h9 => h9) rfl (by decide +kernel) rfl rfl (Nat.le_of_ble_eq_true rfl) dX2_putIntoLog_52 (fun H locs hP _ hS => ?_)
    have hP : va_P (dC, dI) vwCl [(ad 9, .inr (2, [.int nd, .int (nI (lc + 1)), .long bc, .int bv, .ref (ad 10), .ref (ad 11), .ref (ad 12), .ref (ad 1), .ref (ad 5), .ref (ad 13), .ref (ad 14), .int (nI wc)])), (ad 10, .inl (cI, lz, .inl (upd lh lc hv))), (ad 11, .inl (cI, lz, .inl (upd lw lc vl))), (ad 12, .inl (cL, lz, .inr (.inl (vp_updL lb lc bc)))), (ad 13, .inl (cI, 11, .inl wh)), (ad 14, .inl (cI, 11, .inl wv))] H := hP
    exact W.vret hx hb hr (fun t ht hW => ⟨⟨((lc + 1), (upd lh lc hv), (upd lw lc vl), (vp_updL lb lc bc)), rfl, hF, xBi ht hP⟩, hS.F ht⟩) hS.2.2 dX2_putIntoLog_55
