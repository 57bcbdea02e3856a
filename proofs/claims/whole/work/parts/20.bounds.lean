def f_isAvailable (avl : Int64) (i : Nat) : Int32 :=
  if (lg_cmp ((avl >>> ((nI i).toInt64 &&& 63)) &&& 1) 0) = 0 then
    0
  else
    1
def f_firstFalseClause_L (mt mf : Nat → Int32) (avl : Int64) (gh gv : Int32) : Nat → Nat → Int32
  | 0, i =>
    (-1)
  | n + 1, i =>
    if (f_isAvailable avl i) = 0 then
      f_firstFalseClause_L mt mf avl gh gv n (i + 1)
    else
      if (f_isFalse mt mf i gh gv) = 0 then
        f_firstFalseClause_L mt mf avl gh gv n (i + 1)
      else
        (nI i)
def f_firstFalseClause (nc : Nat) (mt mf : Nat → Int32) (avl : Int64) (gh gv : Int32) : Int32 :=
  f_firstFalseClause_L mt mf avl gh gv nc 0
def f_firstUnitClause_L (mt mf : Nat → Int32) (avl : Int64) (gh gv : Int32) : Nat → Nat → Int32
  | 0, i =>
    (-1)
  | n + 1, i =>
    if (f_bitCount (f_withoutValue mt mf i gh)) = 1 then
      if (f_isAvailable avl i) = 0 then
        f_firstUnitClause_L mt mf avl gh gv n (i + 1)
      else
        if (f_isTrue mt mf i gh gv) = 0 then
          (nI i)
        else
          f_firstUnitClause_L mt mf avl gh gv n (i + 1)
    else
      f_firstUnitClause_L mt mf avl gh gv n (i + 1)
def f_firstUnitClause (nc : Nat) (mt mf : Nat → Int32) (avl : Int64) (gh gv : Int32) : Int32 :=
  f_firstUnitClause_L mt mf avl gh gv nc 0
set_option maxHeartbeats 4000000 in
set_option maxRecDepth 100000 in
theorem c_isAvailable (l : Launch) (dC : Nat → ClassId) (dI : Nat → Nat → Nat) (cI cL cZ : ClassId) (ad : Nat → Nat) (hinj : xI ad 15) (ss : Nat → Int64) (sc : Nat) (avl : Int64) (gh gv : Int32) (sv : Nat → Int32) (sr : Nat → Nat) (st : Nat) (i : Nat) : Met l yX0_isAvailable wsX0_isAvailable ({ frames := 0, cells := 0, slots := 0, locals := 0 }) (va_Pc [.ref (ad 5), .int (nI i)] (fun U => va_P (dC, dI) vwCl [(ad 5, .inr (0, [.ref (ad 1), .ref (ad 6), .int (nI sc), .long avl, .int gh, .int gv, .ref (ad 7), .ref (ad 8), .int (nI st)])), (ad 6, .inl (cL, 40, .inr (.inl ss))), (ad 7, .inl (cI, 10, .inl sv)), (ad 8, .inl (cI, 10, .inl (xnI sr)))] U.heap ∧ va_K (dC, dI) vwCl [(cI, .int), (cL, .long), (cZ, .boolean)] U)) (va_Qi (fun r (_ : Unit) => f_isAvailable avl i = r) (fun _ _ => True) xN) 0 0 xN := by
  refine Met.ofW (cc := cX0_isAvailable) (maxL := 2) (ret := (some .boolean)) (by decide) rfl ?_
  intro p e s m args below meth c s₁ B hml hvv
  obtain ⟨rfl, hP0, hK⟩ := hvv
  have hx := B.exec
  have hb := B.bytes
  have hr := B.returns
  have hts := atoms_spec (ws := wsX0_isAvailable) B.pre
  have hown : s.vm.findClass RX0 = some m.cls := findClass_of_methodNamed B.named
  have hlocks := B.notSynchronized
  have hw0 : (.fieldLink RX0 41 "WeightedClauses$Bounds" "available" "J" : Cond).before _ s = true := hts _ (List.mem_cons_of_mem _ wd_101)
  have hPr : va_P (dC, dI) vwCl [(ad 5, .inr (0, [.ref (ad 1), .ref (ad 6), .int (nI sc), .long avl, .int gh, .int gv, .ref (ad 7), .ref (ad 8), .int (nI st)])), (ad 6, .inl (cL, 40, .inr (.inl ss))), (ad 7, .inl (cI, 10, .inl sv)), (ad 8, .inl (cI, 10, .inl (xnI sr)))] s.heap := hP0.sub [0, 1, 2, 3] rfl
  have hS : va_S xN s.heap s.heap [] := va_S.rf
  have hl := lv_entry [.ref (ad 5), .int (nI i)] (n := 2) (Nat.le_of_ble_eq_true rfl)
  rw [lg_entry_eq]
  generalize (lg_sl [.ref (ad 5), .int (nI i)] ++ List.replicate (2 - (lg_sl [.ref (ad 5), .int (nI i)]).length) Slot.unset).toArray = ls at hl ⊢
  have hl : lv_has ls 2 [(0, .ref (ad 5)), (1, .int (nI i))] := hl
  have hF := Eq.refl (f_isAvailable avl i)
  conv at hF => rhs; unfold f_isAvailable
  refine lv_aload_n hx hb dX0_isAvailable_0 rfl (lv_at hl 0 rfl) ?_
  have hR := xP0 hPr xnN hS
  refine va_get (D := (dC, dI)) (ci := 0) (v := .long avl) (C := RX0) (T := TX0) (N := 9) hx hb hts (xcons inX0) hown hK hR 0 rfl rfl 3 (by decide) hw0 (fun _ h9 => h9) rfl dX0_isAvailable_1 ?_
  refine lv_iload_n hx hb dX0_isAvailable_4 rfl (lv_at hl 1 rfl) ?_
  refine lv_lshr (v := (avl >>> ((nI i).toInt64 &&& 63))) hx hb dX0_isAvailable_5 rfl ?_
  refine lv_lconst (v := 1) hx hb dX0_isAvailable_6 (by decide) ?_
  refine lv_land hx hb dX0_isAvailable_7 ?_
  refine lv_lconst (v := 0) hx hb dX0_isAvailable_8 (by decide) ?_
  refine W.lcmp hx hb dX0_isAvailable_9 ?_
  refine lv_if_eq (tgt := 17) hx hb dX0_isAvailable_10 (by decide) (fun h1 => ?_) (fun h1 => ?_)
  · have hF := hF.trans (if_pos h1)
    refine lv_iconst (v := 0) hx hb dX0_isAvailable_17 (by decide) ?_
    exact W.zret (v := 0) hx hb hr rfl (fun t ht hW => ⟨⟨_, (), rfl, hF, trivial⟩, hS.F ht⟩) hS.2.2 dX0_isAvailable_18
  · have hF := hF.trans (if_neg h1)
    refine lv_iconst (v := 1) hx hb dX0_isAvailable_13 (by decide) ?_
    refine lv_goto (tgt := 18) hx hb dX0_isAvailable_14 (by decide) ?_
    exact W.zret (v := 1) hx hb hr rfl (fun t ht hW => ⟨⟨_, (), rfl, hF, trivial⟩, hS.F ht⟩) hS.2.2 dX0_isAvailable_18
set_option maxHeartbeats 4000000 in
set_option maxRecDepth 100000 in
theorem c_firstFalseClause (l : Launch) (dC : Nat → ClassId) (dI : Nat → Nat → Nat) (cI cL cZ : ClassId) (ad : Nat → Nat) (hinj : xI ad 15) (nv : Nat) (av : Int32) (nc : Nat) (mt mf wt : Nat → Int32) (ss : Nat → Int64) (sc : Nat) (avl : Int64) (gh gv : Int32) (sv : Nat → Int32) (sr : Nat → Nat) (st : Nat) (hnc : nc ≤ 40) : Met l yX0_firstFalseClause wsX0_firstFalseClause ({ frames := 1, cells := 0, slots := 0, locals := 24 }) (va_Pc [.ref (ad 5)] (fun U => va_P (dC, dI) vwCl [(ad 1, .inr (1, [.int (nI nv), .int av, .int (nI nc), .ref (ad 2), .ref (ad 3), .ref (ad 4)])), (ad 2, .inl (cI, 40, .inl mt)), (ad 3, .inl (cI, 40, .inl mf)), (ad 4, .inl (cI, 40, .inl wt)), (ad 5, .inr (0, [.ref (ad 1), .ref (ad 6), .int (nI sc), .long avl, .int gh, .int gv, .ref (ad 7), .ref (ad 8), .int (nI st)])), (ad 6, .inl (cL, 40, .inr (.inl ss))), (ad 7, .inl (cI, 10, .inl sv)), (ad 8, .inl (cI, 10, .inl (xnI sr)))] U.heap ∧ va_K (dC, dI) vwCl [(cI, .int), (cL, .long), (cZ, .boolean)] U)) (va_Qi (fun r (_ : Unit) => f_firstFalseClause nc mt mf avl gh gv = r) (fun _ _ => True) xN) 0 0 xN := by
  refine Met.ofW (cc := cX0_firstFalseClause) (maxL := 2) (ret := (some .int)) (by decide) rfl ?_
  intro p e s m args below meth c s₁ B hml hvv
  obtain ⟨rfl, hP0, hK⟩ := hvv
  have hx := B.exec
  have hb := B.bytes
  have hr := B.returns
  have hts := atoms_spec (ws := wsX0_firstFalseClause) B.pre
  have hown : s.vm.findClass RX0 = some m.cls := findClass_of_methodNamed B.named
  have hlocks := B.notSynchronized
  have hw0 : (.fieldLink RX0 22 "WeightedClauses$Bounds" "formula" "LWeightedClauses$Formula;" : Cond).before _ s = true := hts _ (List.mem_cons_of_mem _ wd_98)
  have hw1 : (.fieldLink RX0 78 "WeightedClauses$Formula" "clauseCount" "I" : Cond).before _ s = true := hts _ (List.mem_cons_of_mem _ wd_74)
  have hw2 : (.fieldLink RX0 54 "WeightedClauses$Bounds" "grownHave" "I" : Cond).before _ s = true := hts _ (List.mem_cons_of_mem _ wd_102)
  have hw3 : (.fieldLink RX0 57 "WeightedClauses$Bounds" "grownValues" "I" : Cond).before _ s = true := hts _ (List.mem_cons_of_mem _ wd_103)
  have hPr : va_P (dC, dI) vwCl [(ad 1, .inr (1, [.int (nI nv), .int av, .int (nI nc), .ref (ad 2), .ref (ad 3), .ref (ad 4)])), (ad 2, .inl (cI, 40, .inl mt)), (ad 3, .inl (cI, 40, .inl mf)), (ad 4, .inl (cI, 40, .inl wt)), (ad 5, .inr (0, [.ref (ad 1), .ref (ad 6), .int (nI sc), .long avl, .int gh, .int gv, .ref (ad 7), .ref (ad 8), .int (nI st)])), (ad 6, .inl (cL, 40, .inr (.inl ss))), (ad 7, .inl (cI, 10, .inl sv)), (ad 8, .inl (cI, 10, .inl (xnI sr)))] s.heap := hP0.sub [0, 1, 2, 3, 4, 5, 6, 7] rfl
  have hS : va_S xN s.heap s.heap [] := va_S.rf
  have hl := lv_entry [.ref (ad 5)] (n := 2) (Nat.le_of_ble_eq_true rfl)
  rw [lg_entry_eq]
  generalize (lg_sl [.ref (ad 5)] ++ List.replicate (2 - (lg_sl [.ref (ad 5)]).length) Slot.unset).toArray = ls at hl ⊢
  have hl : lv_has ls 2 [(0, .ref (ad 5))] := hl
  have hF := Eq.refl (f_firstFalseClause nc mt mf avl gh gv)
  conv at hF => rhs; unfold f_firstFalseClause
  refine lv_iconst (v := 0) hx hb dX0_firstFalseClause_0 (by decide) ?_
  refine lv_istore_n (lv' := [(1, .int 0), (0, .ref (ad 5))]) hx hb dX0_firstFalseClause_1 rfl hl (by decide) rfl (fun ls hl => ?_)
  have lp2 : ∀ (n : Nat) (i : Nat) (H : Heap) (locs : List Loc) (ls : Array Slot), f_firstFalseClause nc mt mf avl gh gv = f_firstFalseClause_L mt mf avl gh gv n i → i + n = nc → va_S xN s.heap H locs → lv_has ls 2 [(0, .ref (ad 5)), (1, .int (nI i))] → W p l e (headSpec wsX0_firstFalseClause ({ frames := 1, cells := 0, slots := 0, locals := 24 })).room s m [.ref (ad 5)].toArray below meth c H locs 0 0 (MQ below (va_Qi (fun r (_ : Unit) => f_firstFalseClause nc mt mf avl gh gv = r) (fun _ _ => True) xN) [.ref (ad 5)].toArray s 0 0 xN) (F0 m 2 ls []) := by
    intro n
    induction n with
    | zero =>
      intro i H locs ls hF hil hS hl
      rw [f_firstFalseClause_L] at hF
      refine lv_iload_n hx hb dX0_firstFalseClause_2 rfl (lv_at hl 1 rfl) ?_
      refine lv_aload_n hx hb dX0_firstFalseClause_3 rfl (lv_at hl 0 rfl) ?_
      have hR := xP0 hPr xnN hS
      refine va_get (D := (dC, dI)) (ci := 0) (v := .ref (ad 1)) (C := RX0) (T := TX0) (N := 9) hx hb hts (xcons inX0) hown hK hR 4 rfl rfl 0 (by decide) hw0 (fun _ h9 => h9) rfl dX0_firstFalseClause_4 ?_
      refine va_get (D := (dC, dI)) (ci := 1) (v := .int (nI nc)) (C := RX1) (T := TX1) (N := 6) hx hb hts (xcons inX1) hown hK hR 0 rfl rfl 2 (by decide) hw1 (fun _ h9 => h9) rfl dX0_firstFalseClause_7 ?_
      refine lv_icmp_ge (tgt := 48) hx hb dX0_firstFalseClause_10 (by decide) (fun h1 => ?_) (fun h1 => absurd (nI_le (by omega) (by omega)) h1)
      refine lv_iconst (v := (-1)) hx hb dX0_firstFalseClause_48 (by decide) ?_
      exact W.iret (v := (-1)) hx hb hr (fun t ht hW => ⟨⟨_, (), rfl, hF, trivial⟩, hS.F ht⟩) hS.2.2 dX0_firstFalseClause_49
    | succ n ih =>
      intro i H locs ls hF hil hS hl
      rw [f_firstFalseClause_L] at hF
      refine lv_iload_n hx hb dX0_firstFalseClause_2 rfl (lv_at hl 1 rfl) ?_
      refine lv_aload_n hx hb dX0_firstFalseClause_3 rfl (lv_at hl 0 rfl) ?_
      have hR := xP0 hPr xnN hS
      refine va_get (D := (dC, dI)) (ci := 0) (v := .ref (ad 1)) (C := RX0) (T := TX0) (N := 9) hx hb hts (xcons inX0) hown hK hR 4 rfl rfl 0 (by decide) hw0 (fun _ h9 => h9) rfl dX0_firstFalseClause_4 ?_
      refine va_get (D := (dC, dI)) (ci := 1) (v := .int (nI nc)) (C := RX1) (T := TX1) (N := 6) hx hb hts (xcons inX1) hown hK hR 0 rfl rfl 2 (by decide) hw1 (fun _ h9 => h9) rfl dX0_firstFalseClause_7 ?_
      refine lv_icmp_ge (tgt := 48) hx hb dX0_firstFalseClause_10 (by decide) (fun h2 => absurd h2 (nI_ge (by omega) (by omega))) (fun h2 => ?_)
      refine lv_aload_n hx hb dX0_firstFalseClause_13 rfl (lv_at hl 0 rfl) ?_
      refine lv_iload_n hx hb dX0_firstFalseClause_14 rfl (lv_at hl 1 rfl) ?_
      refine xro_i (va_runV (As := [.int (nI i)]) (rest := []) ⟨hx, hb, hml, hown, hts⟩ (c_isAvailable l dC dI cI cL cZ ad hinj ss sc avl gh gv sv sr st i) (xcwV 1 hts wd_273 wd_37 wd_270 wd_272 wd_5 rfl rfl (by decide +kernel) ⟨Nat.le_of_ble_eq_true rfl, Nat.le_of_ble_eq_true rfl⟩) (xpreV (va_recv hK hR rfl (q0 := 4) rfl) (hR.sub [4, 5, 6, 7] rfl) hK) rfl rfl hl.1 rfl (lv_room (Nat.le_of_ble_eq_true rfl)) dX0_firstFalseClause_15 ⟨Nat.le_of_ble_eq_true rfl, Nat.le_of_ble_eq_true rfl⟩) hS (fun H locs hk hS => ?_)
      refine lv_if_eq (tgt := 42) hx hb dX0_firstFalseClause_18 (by decide) (fun h3 => ?_) (fun h3 => ?_)
      · have hF := hF.trans (if_pos h3)
        refine lv_iinc (k := 1) (v := (nI (i + 1))) (lv' := [(1, .int (nI (i + 1))), (0, .ref (ad 5))]) hx hb dX0_firstFalseClause_42 hl rfl (xinc _) (by decide) rfl (fun ls hl => ?_)
        refine lv_goto (tgt := 2) hx hb dX0_firstFalseClause_45 (by decide) ?_
        exact ih (i + 1) _ _ _ hF (by omega) hS (lv_sub hl [1, 0] rfl)
      · have hF := hF.trans (if_neg h3)
        refine lv_aload_n hx hb dX0_firstFalseClause_21 rfl (lv_at hl 0 rfl) ?_
        have hR := xP0 hPr xnN hS
        refine va_get (D := (dC, dI)) (ci := 0) (v := .ref (ad 1)) (C := RX0) (T := TX0) (N := 9) hx hb hts (xcons inX0) hown hK hR 4 rfl rfl 0 (by decide) hw0 (fun _ h9 => h9) rfl dX0_firstFalseClause_22 ?_
        refine lv_iload_n hx hb dX0_firstFalseClause_25 rfl (lv_at hl 1 rfl) ?_
        refine lv_aload_n hx hb dX0_firstFalseClause_26 rfl (lv_at hl 0 rfl) ?_
        refine va_get (D := (dC, dI)) (ci := 0) (v := .int gh) (C := RX0) (T := TX0) (N := 9) hx hb hts (xcons inX0) hown hK hR 4 rfl rfl 4 (by decide) hw2 (fun _ h9 => h9) rfl dX0_firstFalseClause_27 ?_
        refine lv_aload_n hx hb dX0_firstFalseClause_30 rfl (lv_at hl 0 rfl) ?_
        refine va_get (D := (dC, dI)) (ci := 0) (v := .int gv) (C := RX0) (T := TX0) (N := 9) hx hb hts (xcons inX0) hown hK hR 4 rfl rfl 5 (by decide) hw3 (fun _ h9 => h9) rfl dX0_firstFalseClause_31 ?_
        refine xro_i (va_runV (As := [.int (nI i), .int gh, .int gv]) (rest := []) ⟨hx, hb, hml, hown, hts⟩ (c_isFalse l dC dI cI cL cZ ad hinj nv av nc mt mf wt i (by omega) gh gv) (xcwV 3 hts wd_237 wd_35 wd_274 wd_235 wd_236 rfl rfl (by decide +kernel) ⟨Nat.le_of_ble_eq_true rfl, Nat.le_of_ble_eq_true rfl⟩) (xpreV (va_recv hK hR rfl (q0 := 0) rfl) (hR.sub [0, 1, 2, 3] rfl) hK) rfl rfl hl.1 rfl (lv_room (Nat.le_of_ble_eq_true rfl)) dX0_firstFalseClause_34 ⟨Nat.le_of_ble_eq_true rfl, Nat.le_of_ble_eq_true rfl⟩) hS (fun H locs hk hS => ?_)
        refine lv_if_eq (tgt := 42) hx hb dX0_firstFalseClause_37 (by decide) (fun h4 => ?_) (fun h4 => ?_)
        · have hF := hF.trans (if_pos h4)
          refine lv_iinc (k := 1) (v := (nI (i + 1))) (lv' := [(1, .int (nI (i + 1))), (0, .ref (ad 5))]) hx hb dX0_firstFalseClause_42 hl rfl (xinc _) (by decide) rfl (fun ls hl => ?_)
          refine lv_goto (tgt := 2) hx hb dX0_firstFalseClause_45 (by decide) ?_
          exact ih (i + 1) _ _ _ hF (by omega) hS (lv_sub hl [1, 0] rfl)
        · have hF := hF.trans (if_neg h4)
          refine lv_iload_n hx hb dX0_firstFalseClause_40 rfl (lv_at hl 1 rfl) ?_
          exact W.iret (v := (nI i)) hx hb hr (fun t ht hW => ⟨⟨_, (), rfl, hF, trivial⟩, hS.F ht⟩) hS.2.2 dX0_firstFalseClause_41
  exact lp2 nc 0 _ _ _ hF (by omega) hS (lv_sub hl [1, 0] rfl)
set_option maxHeartbeats 4000000 in
set_option maxRecDepth 100000 in
theorem c_firstUnitClause (l : Launch) (dC : Nat → ClassId) (dI : Nat → Nat → Nat) (cI cL cZ : ClassId) (ad : Nat → Nat) (hinj : xI ad 15) (nv : Nat) (av : Int32) (nc : Nat) (mt mf wt : Nat → Int32) (ss : Nat → Int64) (sc : Nat) (avl : Int64) (gh gv : Int32) (sv : Nat → Int32) (sr : Nat → Nat) (st : Nat) (hnc : nc ≤ 40) : Met l yX0_firstUnitClause wsX0_firstUnitClause ({ frames := 1, cells := 0, slots := 0, locals := 23 }) (va_Pc [.ref (ad 5)] (fun U => va_P (dC, dI) vwCl [(ad 1, .inr (1, [.int (nI nv), .int av, .int (nI nc), .ref (ad 2), .ref (ad 3), .ref (ad 4)])), (ad 2, .inl (cI, 40, .inl mt)), (ad 3, .inl (cI, 40, .inl mf)), (ad 4, .inl (cI, 40, .inl wt)), (ad 5, .inr (0, [.ref (ad 1), .ref (ad 6), .int (nI sc), .long avl, .int gh, .int gv, .ref (ad 7), .ref (ad 8), .int (nI st)])), (ad 6, .inl (cL, 40, .inr (.inl ss))), (ad 7, .inl (cI, 10, .inl sv)), (ad 8, .inl (cI, 10, .inl (xnI sr)))] U.heap ∧ va_K (dC, dI) vwCl [(cI, .int), (cL, .long), (cZ, .boolean)] U)) (va_Qi (fun r (_ : Unit) => f_firstUnitClause nc mt mf avl gh gv = r) (fun _ _ => True) xN) 0 0 xN := by
  refine Met.ofW (cc := cX0_firstUnitClause) (maxL := 3) (ret := (some .int)) (by decide) rfl ?_
  intro p e s m args below meth c s₁ B hml hvv
  obtain ⟨rfl, hP0, hK⟩ := hvv
  have hx := B.exec
  have hb := B.bytes
  have hr := B.returns
  have hts := atoms_spec (ws := wsX0_firstUnitClause) B.pre
  have hown : s.vm.findClass RX0 = some m.cls := findClass_of_methodNamed B.named
  have hlocks := B.notSynchronized
  have hw0 : (.fieldLink RX0 22 "WeightedClauses$Bounds" "formula" "LWeightedClauses$Formula;" : Cond).before _ s = true := hts _ (List.mem_cons_of_mem _ wd_98)
  have hw1 : (.fieldLink RX0 78 "WeightedClauses$Formula" "clauseCount" "I" : Cond).before _ s = true := hts _ (List.mem_cons_of_mem _ wd_74)
  have hw2 : (.fieldLink RX0 54 "WeightedClauses$Bounds" "grownHave" "I" : Cond).before _ s = true := hts _ (List.mem_cons_of_mem _ wd_102)
  have hw3 : (.fieldLink RX0 57 "WeightedClauses$Bounds" "grownValues" "I" : Cond).before _ s = true := hts _ (List.mem_cons_of_mem _ wd_103)
  have hPr : va_P (dC, dI) vwCl [(ad 1, .inr (1, [.int (nI nv), .int av, .int (nI nc), .ref (ad 2), .ref (ad 3), .ref (ad 4)])), (ad 2, .inl (cI, 40, .inl mt)), (ad 3, .inl (cI, 40, .inl mf)), (ad 4, .inl (cI, 40, .inl wt)), (ad 5, .inr (0, [.ref (ad 1), .ref (ad 6), .int (nI sc), .long avl, .int gh, .int gv, .ref (ad 7), .ref (ad 8), .int (nI st)])), (ad 6, .inl (cL, 40, .inr (.inl ss))), (ad 7, .inl (cI, 10, .inl sv)), (ad 8, .inl (cI, 10, .inl (xnI sr)))] s.heap := hP0.sub [0, 1, 2, 3, 4, 5, 6, 7] rfl
  have hS : va_S xN s.heap s.heap [] := va_S.rf
  have hl := lv_entry [.ref (ad 5)] (n := 3) (Nat.le_of_ble_eq_true rfl)
  rw [lg_entry_eq]
  generalize (lg_sl [.ref (ad 5)] ++ List.replicate (3 - (lg_sl [.ref (ad 5)]).length) Slot.unset).toArray = ls at hl ⊢
  have hl : lv_has ls 3 [(0, .ref (ad 5))] := hl
  have hF := Eq.refl (f_firstUnitClause nc mt mf avl gh gv)
  conv at hF => rhs; unfold f_firstUnitClause
  refine lv_iconst (v := 0) hx hb dX0_firstUnitClause_0 (by decide) ?_
  refine lv_istore_n (lv' := [(1, .int 0), (0, .ref (ad 5))]) hx hb dX0_firstUnitClause_1 rfl hl (by decide) rfl (fun ls hl => ?_)
  have lp2 : ∀ (n : Nat) (i : Nat) (H : Heap) (locs : List Loc) (ls : Array Slot), f_firstUnitClause nc mt mf avl gh gv = f_firstUnitClause_L mt mf avl gh gv n i → i + n = nc → va_S xN s.heap H locs → lv_has ls 3 [(0, .ref (ad 5)), (1, .int (nI i))] → W p l e (headSpec wsX0_firstUnitClause ({ frames := 1, cells := 0, slots := 0, locals := 23 })).room s m [.ref (ad 5)].toArray below meth c H locs 0 0 (MQ below (va_Qi (fun r (_ : Unit) => f_firstUnitClause nc mt mf avl gh gv = r) (fun _ _ => True) xN) [.ref (ad 5)].toArray s 0 0 xN) (F0 m 2 ls []) := by
    intro n
    induction n with
    | zero =>
      intro i H locs ls hF hil hS hl
      rw [f_firstUnitClause_L] at hF
      refine lv_iload_n hx hb dX0_firstUnitClause_2 rfl (lv_at hl 1 rfl) ?_
      refine lv_aload_n hx hb dX0_firstUnitClause_3 rfl (lv_at hl 0 rfl) ?_
      have hR := xP0 hPr xnN hS
      refine va_get (D := (dC, dI)) (ci := 0) (v := .ref (ad 1)) (C := RX0) (T := TX0) (N := 9) hx hb hts (xcons inX0) hown hK hR 4 rfl rfl 0 (by decide) hw0 (fun _ h9 => h9) rfl dX0_firstUnitClause_4 ?_
      refine va_get (D := (dC, dI)) (ci := 1) (v := .int (nI nc)) (C := RX1) (T := TX1) (N := 6) hx hb hts (xcons inX1) hown hK hR 0 rfl rfl 2 (by decide) hw1 (fun _ h9 => h9) rfl dX0_firstUnitClause_7 ?_
      refine lv_icmp_ge (tgt := 77) hx hb dX0_firstUnitClause_10 (by decide) (fun h1 => ?_) (fun h1 => absurd (nI_le (by omega) (by omega)) h1)
      refine lv_iconst (v := (-1)) hx hb dX0_firstUnitClause_77 (by decide) ?_
      exact W.iret (v := (-1)) hx hb hr (fun t ht hW => ⟨⟨_, (), rfl, hF, trivial⟩, hS.F ht⟩) hS.2.2 dX0_firstUnitClause_78
    | succ n ih =>
      intro i H locs ls hF hil hS hl
      rw [f_firstUnitClause_L] at hF
      refine lv_iload_n hx hb dX0_firstUnitClause_2 rfl (lv_at hl 1 rfl) ?_
      refine lv_aload_n hx hb dX0_firstUnitClause_3 rfl (lv_at hl 0 rfl) ?_
      have hR := xP0 hPr xnN hS
      refine va_get (D := (dC, dI)) (ci := 0) (v := .ref (ad 1)) (C := RX0) (T := TX0) (N := 9) hx hb hts (xcons inX0) hown hK hR 4 rfl rfl 0 (by decide) hw0 (fun _ h9 => h9) rfl dX0_firstUnitClause_4 ?_
      refine va_get (D := (dC, dI)) (ci := 1) (v := .int (nI nc)) (C := RX1) (T := TX1) (N := 6) hx hb hts (xcons inX1) hown hK hR 0 rfl rfl 2 (by decide) hw1 (fun _ h9 => h9) rfl dX0_firstUnitClause_7 ?_
      refine lv_icmp_ge (tgt := 77) hx hb dX0_firstUnitClause_10 (by decide) (fun h2 => absurd h2 (nI_ge (by omega) (by omega))) (fun h2 => ?_)
      refine lv_aload_n hx hb dX0_firstUnitClause_13 rfl (lv_at hl 0 rfl) ?_
      refine va_get (D := (dC, dI)) (ci := 0) (v := .ref (ad 1)) (C := RX0) (T := TX0) (N := 9) hx hb hts (xcons inX0) hown hK hR 4 rfl rfl 0 (by decide) hw0 (fun _ h9 => h9) rfl dX0_firstUnitClause_14 ?_
      refine lv_iload_n hx hb dX0_firstUnitClause_17 rfl (lv_at hl 1 rfl) ?_
      refine lv_aload_n hx hb dX0_firstUnitClause_18 rfl (lv_at hl 0 rfl) ?_
      refine va_get (D := (dC, dI)) (ci := 0) (v := .int gh) (C := RX0) (T := TX0) (N := 9) hx hb hts (xcons inX0) hown hK hR 4 rfl rfl 4 (by decide) hw2 (fun _ h9 => h9) rfl dX0_firstUnitClause_19 ?_
      refine xro_i (va_runV (As := [.int (nI i), .int gh]) (rest := []) ⟨hx, hb, hml, hown, hts⟩ (c_withoutValue l dC dI cI cL cZ ad hinj nv av nc mt mf wt i (by omega) gh) (xcwV 2 hts wd_257 wd_35 wd_287 wd_255 wd_256 rfl rfl (by decide +kernel) ⟨Nat.le_of_ble_eq_true rfl, Nat.le_of_ble_eq_true rfl⟩) (xpreV (va_recv hK hR rfl (q0 := 0) rfl) (hR.sub [0, 1, 2, 3] rfl) hK) rfl rfl hl.1 rfl (lv_room (Nat.le_of_ble_eq_true rfl)) dX0_firstUnitClause_22 ⟨Nat.le_of_ble_eq_true rfl, Nat.le_of_ble_eq_true rfl⟩) hS (fun H locs hk hS => ?_)
      have hR := xP0 hPr xnN hS
      refine xro_i (va_runS (As := [.int (f_withoutValue mt mf i gh)]) (rest := []) ⟨hx, hb, hml, hown, hts⟩ (c_bitCount l dC dI cI cL cZ ad hinj (f_withoutValue mt mf i gh)) (xcwS 1 hts wd_290 wd_40 wd_288 wd_289 rfl rfl (by decide +kernel) ⟨Nat.le_of_ble_eq_true rfl, Nat.le_of_ble_eq_true rfl⟩) (xpreS xPn hK) rfl rfl hl.1 rfl (lv_room (Nat.le_of_ble_eq_true rfl)) dX0_firstUnitClause_25 ⟨Nat.le_of_ble_eq_true rfl, Nat.le_of_ble_eq_true rfl⟩) hS (fun H locs hk hS => ?_)
      refine lv_iconst (v := 1) hx hb dX0_firstUnitClause_28 (by decide) ?_
      refine lv_icmp_ne (tgt := 36) hx hb dX0_firstUnitClause_29 (by decide) (fun h3 => ?_) (fun h3 => ?_)
      · have hF := hF.trans (if_neg h3)
        refine lv_iconst (v := 0) hx hb dX0_firstUnitClause_36 (by decide) ?_
        refine lv_istore_n (lv' := [(2, .int 0), (0, .ref (ad 5)), (1, .int (nI i))]) hx hb dX0_firstUnitClause_37 rfl hl (by decide) rfl (fun ls hl => ?_)
        refine lv_iload_n hx hb dX0_firstUnitClause_38 rfl (lv_at hl 0 rfl) ?_
        refine lv_if_eq (tgt := 71) hx hb dX0_firstUnitClause_39 (by decide) (fun h4 => ?_) (fun h4 => absurd (by decide) h4)
        refine lv_iinc (k := 2) (v := (nI (i + 1))) (lv' := [(1, .int (nI (i + 1))), (2, .int 0), (0, .ref (ad 5))]) hx hb dX0_firstUnitClause_71 hl rfl (xinc _) (by decide) rfl (fun ls hl => ?_)
        refine lv_goto (tgt := 2) hx hb dX0_firstUnitClause_74 (by decide) ?_
        exact ih (i + 1) _ _ _ hF (by omega) hS (lv_sub hl [2, 0] rfl)
      · have hF := hF.trans (if_pos h3)
        refine lv_iconst (v := 1) hx hb dX0_firstUnitClause_32 (by decide) ?_
        refine lv_goto (tgt := 37) hx hb dX0_firstUnitClause_33 (by decide) ?_
        refine lv_istore_n (lv' := [(2, .int 1), (0, .ref (ad 5)), (1, .int (nI i))]) hx hb dX0_firstUnitClause_37 rfl hl (by decide) rfl (fun ls hl => ?_)
        refine lv_iload_n hx hb dX0_firstUnitClause_38 rfl (lv_at hl 0 rfl) ?_
        refine lv_if_eq (tgt := 71) hx hb dX0_firstUnitClause_39 (by decide) (fun h5 => absurd h5 (by decide)) (fun h5 => ?_)
        refine lv_aload_n hx hb dX0_firstUnitClause_42 rfl (lv_at hl 1 rfl) ?_
        refine lv_iload_n hx hb dX0_firstUnitClause_43 rfl (lv_at hl 2 rfl) ?_
        have hR := xP0 hPr xnN hS
        refine xro_i (va_runV (As := [.int (nI i)]) (rest := []) ⟨hx, hb, hml, hown, hts⟩ (c_isAvailable l dC dI cI cL cZ ad hinj ss sc avl gh gv sv sr st i) (xcwV 1 hts wd_273 wd_37 wd_270 wd_272 wd_5 rfl rfl (by decide +kernel) ⟨Nat.le_of_ble_eq_true rfl, Nat.le_of_ble_eq_true rfl⟩) (xpreV (va_recv hK hR rfl (q0 := 4) rfl) (hR.sub [4, 5, 6, 7] rfl) hK) rfl rfl hl.1 rfl (lv_room (Nat.le_of_ble_eq_true rfl)) dX0_firstUnitClause_44 ⟨Nat.le_of_ble_eq_true rfl, Nat.le_of_ble_eq_true rfl⟩) hS (fun H locs hk hS => ?_)
        refine lv_if_eq (tgt := 71) hx hb dX0_firstUnitClause_47 (by decide) (fun h6 => ?_) (fun h6 => ?_)
        · have hF := hF.trans (if_pos h6)
          refine lv_iinc (k := 2) (v := (nI (i + 1))) (lv' := [(1, .int (nI (i + 1))), (2, .int 1), (0, .ref (ad 5))]) hx hb dX0_firstUnitClause_71 hl rfl (xinc _) (by decide) rfl (fun ls hl => ?_)
          refine lv_goto (tgt := 2) hx hb dX0_firstUnitClause_74 (by decide) ?_
          exact ih (i + 1) _ _ _ hF (by omega) hS (lv_sub hl [2, 0] rfl)
        · have hF := hF.trans (if_neg h6)
          refine lv_aload_n hx hb dX0_firstUnitClause_50 rfl (lv_at hl 1 rfl) ?_
          have hR := xP0 hPr xnN hS
          refine va_get (D := (dC, dI)) (ci := 0) (v := .ref (ad 1)) (C := RX0) (T := TX0) (N := 9) hx hb hts (xcons inX0) hown hK hR 4 rfl rfl 0 (by decide) hw0 (fun _ h9 => h9) rfl dX0_firstUnitClause_51 ?_
          refine lv_iload_n hx hb dX0_firstUnitClause_54 rfl (lv_at hl 2 rfl) ?_
          refine lv_aload_n hx hb dX0_firstUnitClause_55 rfl (lv_at hl 1 rfl) ?_
          refine va_get (D := (dC, dI)) (ci := 0) (v := .int gh) (C := RX0) (T := TX0) (N := 9) hx hb hts (xcons inX0) hown hK hR 4 rfl rfl 4 (by decide) hw2 (fun _ h9 => h9) rfl dX0_firstUnitClause_56 ?_
          refine lv_aload_n hx hb dX0_firstUnitClause_59 rfl (lv_at hl 1 rfl) ?_
          refine va_get (D := (dC, dI)) (ci := 0) (v := .int gv) (C := RX0) (T := TX0) (N := 9) hx hb hts (xcons inX0) hown hK hR 4 rfl rfl 5 (by decide) hw3 (fun _ h9 => h9) rfl dX0_firstUnitClause_60 ?_
          refine xro_i (va_runV (As := [.int (nI i), .int gh, .int gv]) (rest := []) ⟨hx, hb, hml, hown, hts⟩ (c_isTrue l dC dI cI cL cZ ad hinj nv av nc mt mf wt i (by omega) gh gv) (xcwV 3 hts wd_261 wd_35 wd_294 wd_259 wd_260 rfl rfl (by decide +kernel) ⟨Nat.le_of_ble_eq_true rfl, Nat.le_of_ble_eq_true rfl⟩) (xpreV (va_recv hK hR rfl (q0 := 0) rfl) (hR.sub [0, 1, 2, 3] rfl) hK) rfl rfl hl.1 rfl (lv_room (Nat.le_of_ble_eq_true rfl)) dX0_firstUnitClause_63 ⟨Nat.le_of_ble_eq_true rfl, Nat.le_of_ble_eq_true rfl⟩) hS (fun H locs hk hS => ?_)
          refine lv_if_ne (tgt := 71) hx hb dX0_firstUnitClause_66 (by decide) (fun h7 => ?_) (fun h7 => ?_)
          · have hF := hF.trans (if_neg h7)
            refine lv_iinc (k := 2) (v := (nI (i + 1))) (lv' := [(1, .int (nI (i + 1))), (2, .int 1), (0, .ref (ad 5))]) hx hb dX0_firstUnitClause_71 hl rfl (xinc _) (by decide) rfl (fun ls hl => ?_)
            refine lv_goto (tgt := 2) hx hb dX0_firstUnitClause_74 (by decide) ?_
            exact ih (i + 1) _ _ _ hF (by omega) hS (lv_sub hl [2, 0] rfl)
          · have hF := hF.trans (if_pos h7)
            refine lv_iload_n hx hb dX0_firstUnitClause_69 rfl (lv_at hl 2 rfl) ?_
            exact W.iret (v := (nI i)) hx hb hr (fun t ht hW => ⟨⟨_, (), rfl, hF, trivial⟩, hS.F ht⟩) hS.2.2 dX0_firstUnitClause_70
  exact lp2 nc 0 _ _ _ hF (by omega) hS (lv_sub hl [1, 0] rfl)
