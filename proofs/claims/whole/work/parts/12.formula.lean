def f_openClauses_L (mt mf : Nat → Int32) (hv vl : Int32) : Nat → Nat → Int64 → Int64
  | 0, i, acc =>
    acc
  | n + 1, i, acc =>
    if (f_withoutValue mt mf i hv) = 0 then
      f_openClauses_L mt mf hv vl n (i + 1) acc
    else
      if (f_isTrue mt mf i hv vl) = 0 then
        f_openClauses_L mt mf hv vl n (i + 1) (acc ||| ((1 : Int64) <<< ((nI i).toInt64 &&& 63)))
      else
        f_openClauses_L mt mf hv vl n (i + 1) acc
def f_openClauses (nc : Nat) (mt mf : Nat → Int32) (hv vl : Int32) : Int64 :=
  f_openClauses_L mt mf hv vl nc 0 0
def f_costOf_L (mt mf wt : Nat → Int32) (hv vl : Int32) : Nat → Nat → Int64 → Int64
  | 0, i, acc =>
    acc
  | n + 1, i, acc =>
    if (f_isFalse mt mf i hv vl) = 0 then
      f_costOf_L mt mf wt hv vl n (i + 1) acc
    else
      if (wt i) = 0 then
        (-2)
      else
        f_costOf_L mt mf wt hv vl n (i + 1) (acc + ((wt i).toInt64))
def f_costOf (nc : Nat) (mt mf wt : Nat → Int32) (hv vl : Int32) : Int64 :=
  f_costOf_L mt mf wt hv vl nc 0 0
def f_lightestWeight_L (wt : Nat → Int32) (x : Int64) : Nat → Nat → Int32 → Int32
  | 0, i, acc =>
    acc
  | n + 1, i, acc =>
    if (lg_cmp ((x >>> ((nI i).toInt64 &&& 63)) &&& 1) 0) = 0 then
      f_lightestWeight_L wt x n (i + 1) acc
    else
      if (wt i) = 0 then
        f_lightestWeight_L wt x n (i + 1) acc
      else
        if acc = 0 then
          f_lightestWeight_L wt x n (i + 1) (wt i)
        else
          if acc ≤ (wt i) then
            f_lightestWeight_L wt x n (i + 1) acc
          else
            f_lightestWeight_L wt x n (i + 1) (wt i)
def f_lightestWeight (nc : Nat) (wt : Nat → Int32) (x : Int64) : Int32 :=
  f_lightestWeight_L wt x nc 0 0
set_option maxHeartbeats 4000000 in
set_option maxRecDepth 100000 in
theorem c_openClauses (l : Launch) (dC : Nat → ClassId) (dI : Nat → Nat → Nat) (cI cL cZ : ClassId) (ad : Nat → Nat) (hinj : xI ad 15) (nv : Nat) (av : Int32) (nc : Nat) (mt mf wt : Nat → Int32) (hnc : nc ≤ 40) (hv vl : Int32) : Met l yX1_openClauses wsX1_openClauses ({ frames := 1, cells := 0, slots := 0, locals := 23 }) (va_Pc [.ref (ad 1), .int hv, .int vl] (fun U => va_P (dC, dI) vwCl [(ad 1, .inr (1, [.int (nI nv), .int av, .int (nI nc), .ref (ad 2), .ref (ad 3), .ref (ad 4)])), (ad 2, .inl (cI, 40, .inl mt)), (ad 3, .inl (cI, 40, .inl mf)), (ad 4, .inl (cI, 40, .inl wt))] U.heap ∧ va_K (dC, dI) vwCl [(cI, .int), (cL, .long), (cZ, .boolean)] U)) (va_Ql (fun r (_ : Unit) => f_openClauses nc mt mf hv vl = r) (fun _ _ => True) xN) 0 0 xN := by
  refine Met.ofW (cc := cX1_openClauses) (maxL := 6) (ret := (some .long)) (by decide) rfl ?_
  intro p e s m args below meth c s₁ B hml hvv
  obtain ⟨rfl, hP0, hK⟩ := hvv
  have hx := B.exec
  have hb := B.bytes
  have hr := B.returns
  have hts := atoms_spec (ws := wsX1_openClauses) B.pre
  have hown : s.vm.findClass RX1 = some m.cls := findClass_of_methodNamed B.named
  have hlocks := B.notSynchronized
  have hw0 : (.fieldLink RX1 28 "WeightedClauses$Formula" "clauseCount" "I" : Cond).before _ s = true := hts _ (List.mem_cons_of_mem _ wd_72)
  have hPr : va_P (dC, dI) vwCl [(ad 1, .inr (1, [.int (nI nv), .int av, .int (nI nc), .ref (ad 2), .ref (ad 3), .ref (ad 4)])), (ad 2, .inl (cI, 40, .inl mt)), (ad 3, .inl (cI, 40, .inl mf)), (ad 4, .inl (cI, 40, .inl wt))] s.heap := hP0.sub [0, 1, 2, 3] rfl
  have hS : va_S xN s.heap s.heap [] := va_S.rf
  have hl := lv_entry [.ref (ad 1), .int hv, .int vl] (n := 6) (Nat.le_of_ble_eq_true rfl)
  rw [lg_entry_eq]
  generalize (lg_sl [.ref (ad 1), .int hv, .int vl] ++ List.replicate (6 - (lg_sl [.ref (ad 1), .int hv, .int vl]).length) Slot.unset).toArray = ls at hl ⊢
  have hl : lv_has ls 6 [(0, .ref (ad 1)), (1, .int hv), (2, .int vl)] := hl
  have hF := Eq.refl (f_openClauses nc mt mf hv vl)
  conv at hF => rhs; unfold f_openClauses
  refine lv_lconst (v := 0) hx hb dX1_openClauses_0 (by decide) ?_
  refine lv_lstore_n (lv' := [(3, .long 0), (0, .ref (ad 1)), (1, .int hv), (2, .int vl)]) hx hb dX1_openClauses_1 rfl hl (by decide) rfl (fun ls hl => ?_)
  refine lv_iconst (v := 0) hx hb dX1_openClauses_2 (by decide) ?_
  refine lv_istore (lv' := [(5, .int 0), (3, .long 0), (0, .ref (ad 1)), (1, .int hv), (2, .int vl)]) hx hb dX1_openClauses_3 hl (by decide) rfl (fun ls hl => ?_)
  have lp5 : ∀ (n : Nat) (i : Nat) (acc : Int64) (H : Heap) (locs : List Loc) (ls : Array Slot), f_openClauses nc mt mf hv vl = f_openClauses_L mt mf hv vl n i acc → i + n = nc → va_S xN s.heap H locs → lv_has ls 6 [(0, .ref (ad 1)), (1, .int hv), (2, .int vl), (3, .long acc), (5, .int (nI i))] → W p l e (headSpec wsX1_openClauses ({ frames := 1, cells := 0, slots := 0, locals := 23 })).room s m [.ref (ad 1), .int hv, .int vl].toArray below meth c H locs 0 0 (MQ below (va_Ql (fun r (_ : Unit) => f_openClauses nc mt mf hv vl = r) (fun _ _ => True) xN) [.ref (ad 1), .int hv, .int vl].toArray s 0 0 xN) (F0 m 5 ls []) := by
    intro n
    induction n with
    | zero =>
      intro i acc H locs ls hF hil hS hl
      rw [f_openClauses_L] at hF
      refine lv_iload hx hb dX1_openClauses_5 (lv_at hl 4 rfl) ?_
      refine lv_aload_n hx hb dX1_openClauses_7 rfl (lv_at hl 0 rfl) ?_
      have hR := xP0 hPr xnN hS
      refine va_get (D := (dC, dI)) (ci := 1) (v := .int (nI nc)) (C := RX1) (T := TX1) (N := 6) hx hb hts (xcons inX1) hown hK hR 0 rfl rfl 2 (by decide) hw0 (fun _ h9 => h9) rfl dX1_openClauses_8 ?_
      refine lv_icmp_ge (tgt := 48) hx hb dX1_openClauses_11 (by decide) (fun h1 => ?_) (fun h1 => absurd (nI_le (by omega) (by omega)) h1)
      refine lv_lload_n hx hb dX1_openClauses_48 rfl (lv_at hl 3 rfl) ?_
      exact W.lret (v := acc) hx hb hr (fun t ht hW => ⟨⟨_, (), rfl, hF, trivial⟩, hS.F ht⟩) hS.2.2 dX1_openClauses_49
    | succ n ih =>
      intro i acc H locs ls hF hil hS hl
      rw [f_openClauses_L] at hF
      refine lv_iload hx hb dX1_openClauses_5 (lv_at hl 4 rfl) ?_
      refine lv_aload_n hx hb dX1_openClauses_7 rfl (lv_at hl 0 rfl) ?_
      have hR := xP0 hPr xnN hS
      refine va_get (D := (dC, dI)) (ci := 1) (v := .int (nI nc)) (C := RX1) (T := TX1) (N := 6) hx hb hts (xcons inX1) hown hK hR 0 rfl rfl 2 (by decide) hw0 (fun _ h9 => h9) rfl dX1_openClauses_8 ?_
      refine lv_icmp_ge (tgt := 48) hx hb dX1_openClauses_11 (by decide) (fun h2 => absurd h2 (nI_ge (by omega) (by omega))) (fun h2 => ?_)
      refine lv_aload_n hx hb dX1_openClauses_14 rfl (lv_at hl 0 rfl) ?_
      refine lv_iload hx hb dX1_openClauses_15 (lv_at hl 4 rfl) ?_
      refine lv_iload_n hx hb dX1_openClauses_17 rfl (lv_at hl 1 rfl) ?_
      refine xro_i (va_runV (As := [.int (nI i), .int hv]) (rest := []) ⟨hx, hb, hml, hown, hts⟩ (c_withoutValue l dC dI cI cL cZ ad hinj nv av nc mt mf wt i (by omega) hv) (xcwV 2 hts wd_257 wd_35 wd_254 wd_255 wd_256 rfl rfl (by decide +kernel) ⟨Nat.le_of_ble_eq_true rfl, Nat.le_of_ble_eq_true rfl⟩) (xpreV (va_recv hK hR rfl (q0 := 0) rfl) hR hK) rfl rfl hl.1 rfl (lv_room (Nat.le_of_ble_eq_true rfl)) dX1_openClauses_18 ⟨Nat.le_of_ble_eq_true rfl, Nat.le_of_ble_eq_true rfl⟩) hS (fun H locs hk hS => ?_)
      refine lv_if_eq (tgt := 42) hx hb dX1_openClauses_21 (by decide) (fun h3 => ?_) (fun h3 => ?_)
      · have hF := hF.trans (if_pos h3)
        refine lv_iinc (k := 4) (v := (nI (i + 1))) (lv' := [(5, .int (nI (i + 1))), (0, .ref (ad 1)), (1, .int hv), (2, .int vl), (3, .long acc)]) hx hb dX1_openClauses_42 hl rfl (xinc _) (by decide) rfl (fun ls hl => ?_)
        refine lv_goto (tgt := 5) hx hb dX1_openClauses_45 (by decide) ?_
        exact ih (i + 1) acc _ _ _ hF (by omega) hS (lv_sub hl [1, 2, 3, 4, 0] rfl)
      · have hF := hF.trans (if_neg h3)
        refine lv_aload_n hx hb dX1_openClauses_24 rfl (lv_at hl 0 rfl) ?_
        refine lv_iload hx hb dX1_openClauses_25 (lv_at hl 4 rfl) ?_
        refine lv_iload_n hx hb dX1_openClauses_27 rfl (lv_at hl 1 rfl) ?_
        refine lv_iload_n hx hb dX1_openClauses_28 rfl (lv_at hl 2 rfl) ?_
        have hR := xP0 hPr xnN hS
        refine xro_i (va_runV (As := [.int (nI i), .int hv, .int vl]) (rest := []) ⟨hx, hb, hml, hown, hts⟩ (c_isTrue l dC dI cI cL cZ ad hinj nv av nc mt mf wt i (by omega) hv vl) (xcwV 3 hts wd_261 wd_35 wd_258 wd_259 wd_260 rfl rfl (by decide +kernel) ⟨Nat.le_of_ble_eq_true rfl, Nat.le_of_ble_eq_true rfl⟩) (xpreV (va_recv hK hR rfl (q0 := 0) rfl) hR hK) rfl rfl hl.1 rfl (lv_room (Nat.le_of_ble_eq_true rfl)) dX1_openClauses_29 ⟨Nat.le_of_ble_eq_true rfl, Nat.le_of_ble_eq_true rfl⟩) hS (fun H locs hk hS => ?_)
        refine lv_if_ne (tgt := 42) hx hb dX1_openClauses_32 (by decide) (fun h4 => ?_) (fun h4 => ?_)
        · have hF := hF.trans (if_neg h4)
          refine lv_iinc (k := 4) (v := (nI (i + 1))) (lv' := [(5, .int (nI (i + 1))), (0, .ref (ad 1)), (1, .int hv), (2, .int vl), (3, .long acc)]) hx hb dX1_openClauses_42 hl rfl (xinc _) (by decide) rfl (fun ls hl => ?_)
          refine lv_goto (tgt := 5) hx hb dX1_openClauses_45 (by decide) ?_
          exact ih (i + 1) acc _ _ _ hF (by omega) hS (lv_sub hl [1, 2, 3, 4, 0] rfl)
        · have hF := hF.trans (if_pos h4)
          refine lv_lload_n hx hb dX1_openClauses_35 rfl (lv_at hl 3 rfl) ?_
          refine lv_lconst (v := 1) hx hb dX1_openClauses_36 (by decide) ?_
          refine lv_iload hx hb dX1_openClauses_37 (lv_at hl 4 rfl) ?_
          refine lv_lshl (v := ((1 : Int64) <<< ((nI i).toInt64 &&& 63))) hx hb dX1_openClauses_39 rfl ?_
          refine lv_lor hx hb dX1_openClauses_40 ?_
          refine lv_lstore_n (lv' := [(3, .long (acc ||| ((1 : Int64) <<< ((nI i).toInt64 &&& 63)))), (0, .ref (ad 1)), (1, .int hv), (2, .int vl), (5, .int (nI i))]) hx hb dX1_openClauses_41 rfl hl (by decide) rfl (fun ls hl => ?_)
          refine lv_iinc (k := 4) (v := (nI (i + 1))) (lv' := [(5, .int (nI (i + 1))), (3, .long (acc ||| ((1 : Int64) <<< ((nI i).toInt64 &&& 63)))), (0, .ref (ad 1)), (1, .int hv), (2, .int vl)]) hx hb dX1_openClauses_42 hl rfl (xinc _) (by decide) rfl (fun ls hl => ?_)
          refine lv_goto (tgt := 5) hx hb dX1_openClauses_45 (by decide) ?_
          exact ih (i + 1) (acc ||| ((1 : Int64) <<< ((nI i).toInt64 &&& 63))) _ _ _ hF (by omega) hS (lv_sub hl [2, 3, 4, 1, 0] rfl)
  exact lp5 nc 0 0 _ _ _ hF (by omega) hS (lv_sub hl [2, 3, 4, 1, 0] rfl)
set_option maxHeartbeats 4000000 in
set_option maxRecDepth 100000 in
theorem c_costOf (l : Launch) (dC : Nat → ClassId) (dI : Nat → Nat → Nat) (cI cL cZ : ClassId) (ad : Nat → Nat) (hinj : xI ad 15) (nv : Nat) (av : Int32) (nc : Nat) (mt mf wt : Nat → Int32) (hnc : nc ≤ 40) (hv vl : Int32) : Met l yX1_costOf wsX1_costOf ({ frames := 1, cells := 0, slots := 0, locals := 24 }) (va_Pc [.ref (ad 1), .int hv, .int vl] (fun U => va_P (dC, dI) vwCl [(ad 1, .inr (1, [.int (nI nv), .int av, .int (nI nc), .ref (ad 2), .ref (ad 3), .ref (ad 4)])), (ad 2, .inl (cI, 40, .inl mt)), (ad 3, .inl (cI, 40, .inl mf)), (ad 4, .inl (cI, 40, .inl wt))] U.heap ∧ va_K (dC, dI) vwCl [(cI, .int), (cL, .long), (cZ, .boolean)] U)) (va_Ql (fun r (_ : Unit) => f_costOf nc mt mf wt hv vl = r) (fun _ _ => True) xN) 0 0 xN := by
  refine Met.ofW (cc := cX1_costOf) (maxL := 6) (ret := (some .long)) (by decide) rfl ?_
  intro p e s m args below meth c s₁ B hml hvv
  obtain ⟨rfl, hP0, hK⟩ := hvv
  have hx := B.exec
  have hb := B.bytes
  have hr := B.returns
  have hts := atoms_spec (ws := wsX1_costOf) B.pre
  have hown : s.vm.findClass RX1 = some m.cls := findClass_of_methodNamed B.named
  have hlocks := B.notSynchronized
  have hw0 : (.fieldLink RX1 28 "WeightedClauses$Formula" "clauseCount" "I" : Cond).before _ s = true := hts _ (List.mem_cons_of_mem _ wd_72)
  have hw1 : (.fieldLink RX1 18 "WeightedClauses$Formula" "weights" "[I" : Cond).before _ s = true := hts _ (List.mem_cons_of_mem _ wd_77)
  have hw2 : (.constantLong RX1 47 (-2) : Cond).before _ s = true := hts _ (List.mem_cons_of_mem _ wd_238)
  have hPr : va_P (dC, dI) vwCl [(ad 1, .inr (1, [.int (nI nv), .int av, .int (nI nc), .ref (ad 2), .ref (ad 3), .ref (ad 4)])), (ad 2, .inl (cI, 40, .inl mt)), (ad 3, .inl (cI, 40, .inl mf)), (ad 4, .inl (cI, 40, .inl wt))] s.heap := hP0.sub [0, 1, 2, 3] rfl
  have hS : va_S xN s.heap s.heap [] := va_S.rf
  have hl := lv_entry [.ref (ad 1), .int hv, .int vl] (n := 6) (Nat.le_of_ble_eq_true rfl)
  rw [lg_entry_eq]
  generalize (lg_sl [.ref (ad 1), .int hv, .int vl] ++ List.replicate (6 - (lg_sl [.ref (ad 1), .int hv, .int vl]).length) Slot.unset).toArray = ls at hl ⊢
  have hl : lv_has ls 6 [(0, .ref (ad 1)), (1, .int hv), (2, .int vl)] := hl
  have hF := Eq.refl (f_costOf nc mt mf wt hv vl)
  conv at hF => rhs; unfold f_costOf
  refine lv_lconst (v := 0) hx hb dX1_costOf_0 (by decide) ?_
  refine lv_lstore_n (lv' := [(3, .long 0), (0, .ref (ad 1)), (1, .int hv), (2, .int vl)]) hx hb dX1_costOf_1 rfl hl (by decide) rfl (fun ls hl => ?_)
  refine lv_iconst (v := 0) hx hb dX1_costOf_2 (by decide) ?_
  refine lv_istore (lv' := [(5, .int 0), (3, .long 0), (0, .ref (ad 1)), (1, .int hv), (2, .int vl)]) hx hb dX1_costOf_3 hl (by decide) rfl (fun ls hl => ?_)
  have lp5 : ∀ (n : Nat) (i : Nat) (acc : Int64) (H : Heap) (locs : List Loc) (ls : Array Slot), f_costOf nc mt mf wt hv vl = f_costOf_L mt mf wt hv vl n i acc → i + n = nc → va_S xN s.heap H locs → lv_has ls 6 [(0, .ref (ad 1)), (1, .int hv), (2, .int vl), (3, .long acc), (5, .int (nI i))] → W p l e (headSpec wsX1_costOf ({ frames := 1, cells := 0, slots := 0, locals := 24 })).room s m [.ref (ad 1), .int hv, .int vl].toArray below meth c H locs 0 0 (MQ below (va_Ql (fun r (_ : Unit) => f_costOf nc mt mf wt hv vl = r) (fun _ _ => True) xN) [.ref (ad 1), .int hv, .int vl].toArray s 0 0 xN) (F0 m 5 ls []) := by
    intro n
    induction n with
    | zero =>
      intro i acc H locs ls hF hil hS hl
      rw [f_costOf_L] at hF
      refine lv_iload hx hb dX1_costOf_5 (lv_at hl 4 rfl) ?_
      refine lv_aload_n hx hb dX1_costOf_7 rfl (lv_at hl 0 rfl) ?_
      have hR := xP0 hPr xnN hS
      refine va_get (D := (dC, dI)) (ci := 1) (v := .int (nI nc)) (C := RX1) (T := TX1) (N := 6) hx hb hts (xcons inX1) hown hK hR 0 rfl rfl 2 (by decide) hw0 (fun _ h9 => h9) rfl dX1_costOf_8 ?_
      refine lv_icmp_ge (tgt := 56) hx hb dX1_costOf_11 (by decide) (fun h1 => ?_) (fun h1 => absurd (nI_le (by omega) (by omega)) h1)
      refine lv_lload_n hx hb dX1_costOf_56 rfl (lv_at hl 3 rfl) ?_
      exact W.lret (v := acc) hx hb hr (fun t ht hW => ⟨⟨_, (), rfl, hF, trivial⟩, hS.F ht⟩) hS.2.2 dX1_costOf_57
    | succ n ih =>
      intro i acc H locs ls hF hil hS hl
      rw [f_costOf_L] at hF
      refine lv_iload hx hb dX1_costOf_5 (lv_at hl 4 rfl) ?_
      refine lv_aload_n hx hb dX1_costOf_7 rfl (lv_at hl 0 rfl) ?_
      have hR := xP0 hPr xnN hS
      refine va_get (D := (dC, dI)) (ci := 1) (v := .int (nI nc)) (C := RX1) (T := TX1) (N := 6) hx hb hts (xcons inX1) hown hK hR 0 rfl rfl 2 (by decide) hw0 (fun _ h9 => h9) rfl dX1_costOf_8 ?_
      refine lv_icmp_ge (tgt := 56) hx hb dX1_costOf_11 (by decide) (fun h2 => absurd h2 (nI_ge (by omega) (by omega))) (fun h2 => ?_)
      refine lv_aload_n hx hb dX1_costOf_14 rfl (lv_at hl 0 rfl) ?_
      refine lv_iload hx hb dX1_costOf_15 (lv_at hl 4 rfl) ?_
      refine lv_iload_n hx hb dX1_costOf_17 rfl (lv_at hl 1 rfl) ?_
      refine lv_iload_n hx hb dX1_costOf_18 rfl (lv_at hl 2 rfl) ?_
      refine xro_i (va_runV (As := [.int (nI i), .int hv, .int vl]) (rest := []) ⟨hx, hb, hml, hown, hts⟩ (c_isFalse l dC dI cI cL cZ ad hinj nv av nc mt mf wt i (by omega) hv vl) (xcwV 3 hts wd_237 wd_35 wd_234 wd_235 wd_236 rfl rfl (by decide +kernel) ⟨Nat.le_of_ble_eq_true rfl, Nat.le_of_ble_eq_true rfl⟩) (xpreV (va_recv hK hR rfl (q0 := 0) rfl) hR hK) rfl rfl hl.1 rfl (lv_room (Nat.le_of_ble_eq_true rfl)) dX1_costOf_19 ⟨Nat.le_of_ble_eq_true rfl, Nat.le_of_ble_eq_true rfl⟩) hS (fun H locs hk hS => ?_)
      refine lv_if_eq (tgt := 50) hx hb dX1_costOf_22 (by decide) (fun h3 => ?_) (fun h3 => ?_)
      · have hF := hF.trans (if_pos h3)
        refine lv_iinc (k := 4) (v := (nI (i + 1))) (lv' := [(5, .int (nI (i + 1))), (0, .ref (ad 1)), (1, .int hv), (2, .int vl), (3, .long acc)]) hx hb dX1_costOf_50 hl rfl (xinc _) (by decide) rfl (fun ls hl => ?_)
        refine lv_goto (tgt := 5) hx hb dX1_costOf_53 (by decide) ?_
        exact ih (i + 1) acc _ _ _ hF (by omega) hS (lv_sub hl [1, 2, 3, 4, 0] rfl)
      · have hF := hF.trans (if_neg h3)
        refine lv_aload_n hx hb dX1_costOf_25 rfl (lv_at hl 0 rfl) ?_
        have hR := xP0 hPr xnN hS
        refine va_get (D := (dC, dI)) (ci := 1) (v := .ref (ad 4)) (C := RX1) (T := TX1) (N := 6) hx hb hts (xcons inX1) hown hK hR 0 rfl rfl 5 (by decide) hw1 (fun _ h9 => h9) rfl dX1_costOf_26 ?_
        refine lv_iload hx hb dX1_costOf_29 (lv_at hl 4 rfl) ?_
        refine xr_iald hx hb hK hR 3 0 rfl rfl i (by omega) (by omega) dX1_costOf_31 ?_
        refine lv_if_ne (tgt := 39) hx hb dX1_costOf_32 (by decide) (fun h4 => ?_) (fun h4 => ?_)
        · have hF := hF.trans (if_neg h4)
          refine lv_lload_n hx hb dX1_costOf_39 rfl (lv_at hl 3 rfl) ?_
          refine lv_aload_n hx hb dX1_costOf_40 rfl (lv_at hl 0 rfl) ?_
          refine va_get (D := (dC, dI)) (ci := 1) (v := .ref (ad 4)) (C := RX1) (T := TX1) (N := 6) hx hb hts (xcons inX1) hown hK hR 0 rfl rfl 5 (by decide) hw1 (fun _ h9 => h9) rfl dX1_costOf_41 ?_
          refine lv_iload hx hb dX1_costOf_44 (lv_at hl 4 rfl) ?_
          refine xr_iald hx hb hK hR 3 0 rfl rfl i (by omega) (by omega) dX1_costOf_46 ?_
          refine lv_i2l (v := (wt i).toInt64) hx hb dX1_costOf_47 rfl ?_
          refine lv_ladd hx hb dX1_costOf_48 ?_
          refine lv_lstore_n (lv' := [(3, .long (acc + ((wt i).toInt64))), (0, .ref (ad 1)), (1, .int hv), (2, .int vl), (5, .int (nI i))]) hx hb dX1_costOf_49 rfl hl (by decide) rfl (fun ls hl => ?_)
          refine lv_iinc (k := 4) (v := (nI (i + 1))) (lv' := [(5, .int (nI (i + 1))), (3, .long (acc + ((wt i).toInt64))), (0, .ref (ad 1)), (1, .int hv), (2, .int vl)]) hx hb dX1_costOf_50 hl rfl (xinc _) (by decide) rfl (fun ls hl => ?_)
          refine lv_goto (tgt := 5) hx hb dX1_costOf_53 (by decide) ?_
          exact ih (i + 1) (acc + ((wt i).toInt64)) _ _ _ hF (by omega) hS (lv_sub hl [2, 3, 4, 1, 0] rfl)
        · have hF := hF.trans (if_pos h4)
          refine lv_ldc2 hx hb hown hw2 dX1_costOf_35 ?_
          exact W.lret (v := (-2)) hx hb hr (fun t ht hW => ⟨⟨_, (), rfl, hF, trivial⟩, hS.F ht⟩) hS.2.2 dX1_costOf_38
  exact lp5 nc 0 0 _ _ _ hF (by omega) hS (lv_sub hl [2, 3, 4, 1, 0] rfl)
set_option maxHeartbeats 4000000 in
set_option maxRecDepth 100000 in
theorem c_lightestWeight (l : Launch) (dC : Nat → ClassId) (dI : Nat → Nat → Nat) (cI cL cZ : ClassId) (ad : Nat → Nat) (hinj : xI ad 15) (nv : Nat) (av : Int32) (nc : Nat) (mt mf wt : Nat → Int32) (hnc : nc ≤ 40) (x : Int64) : Met l yX1_lightestWeight wsX1_lightestWeight ({ frames := 0, cells := 0, slots := 0, locals := 0 }) (va_Pc [.ref (ad 1), .long x] (fun U => va_P (dC, dI) vwCl [(ad 1, .inr (1, [.int (nI nv), .int av, .int (nI nc), .ref (ad 2), .ref (ad 3), .ref (ad 4)])), (ad 2, .inl (cI, 40, .inl mt)), (ad 3, .inl (cI, 40, .inl mf)), (ad 4, .inl (cI, 40, .inl wt))] U.heap ∧ va_K (dC, dI) vwCl [(cI, .int), (cL, .long), (cZ, .boolean)] U)) (va_Qi (fun r (_ : Unit) => f_lightestWeight nc wt x = r) (fun _ _ => True) xN) 0 0 xN := by
  refine Met.ofW (cc := cX1_lightestWeight) (maxL := 6) (ret := (some .int)) (by decide) rfl ?_
  intro p e s m args below meth c s₁ B hml hvv
  obtain ⟨rfl, hP0, hK⟩ := hvv
  have hx := B.exec
  have hb := B.bytes
  have hr := B.returns
  have hts := atoms_spec (ws := wsX1_lightestWeight) B.pre
  have hown : s.vm.findClass RX1 = some m.cls := findClass_of_methodNamed B.named
  have hlocks := B.notSynchronized
  have hw0 : (.fieldLink RX1 28 "WeightedClauses$Formula" "clauseCount" "I" : Cond).before _ s = true := hts _ (List.mem_cons_of_mem _ wd_72)
  have hw1 : (.fieldLink RX1 18 "WeightedClauses$Formula" "weights" "[I" : Cond).before _ s = true := hts _ (List.mem_cons_of_mem _ wd_77)
  have hPr : va_P (dC, dI) vwCl [(ad 1, .inr (1, [.int (nI nv), .int av, .int (nI nc), .ref (ad 2), .ref (ad 3), .ref (ad 4)])), (ad 2, .inl (cI, 40, .inl mt)), (ad 3, .inl (cI, 40, .inl mf)), (ad 4, .inl (cI, 40, .inl wt))] s.heap := hP0.sub [0, 1, 2, 3] rfl
  have hS : va_S xN s.heap s.heap [] := va_S.rf
  have hl := lv_entry [.ref (ad 1), .long x] (n := 6) (Nat.le_of_ble_eq_true rfl)
  rw [lg_entry_eq]
  generalize (lg_sl [.ref (ad 1), .long x] ++ List.replicate (6 - (lg_sl [.ref (ad 1), .long x]).length) Slot.unset).toArray = ls at hl ⊢
  have hl : lv_has ls 6 [(0, .ref (ad 1)), (1, .long x)] := hl
  have hF := Eq.refl (f_lightestWeight nc wt x)
  conv at hF => rhs; unfold f_lightestWeight
  refine lv_iconst (v := 0) hx hb dX1_lightestWeight_0 (by decide) ?_
  refine lv_istore_n (lv' := [(3, .int 0), (0, .ref (ad 1)), (1, .long x)]) hx hb dX1_lightestWeight_1 rfl hl (by decide) rfl (fun ls hl => ?_)
  refine lv_iconst (v := 0) hx hb dX1_lightestWeight_2 (by decide) ?_
  refine lv_istore (lv' := [(4, .int 0), (3, .int 0), (0, .ref (ad 1)), (1, .long x)]) hx hb dX1_lightestWeight_3 hl (by decide) rfl (fun ls hl => ?_)
  have lp5 : ∀ (n : Nat) (i : Nat) (acc : Int32) (H : Heap) (locs : List Loc) (ls : Array Slot), f_lightestWeight nc wt x = f_lightestWeight_L wt x n i acc → i + n = nc → va_S xN s.heap H locs → lv_has ls 6 [(0, .ref (ad 1)), (1, .long x), (3, .int acc), (4, .int (nI i))] → W p l e (headSpec wsX1_lightestWeight ({ frames := 0, cells := 0, slots := 0, locals := 0 })).room s m [.ref (ad 1), .long x].toArray below meth c H locs 0 0 (MQ below (va_Qi (fun r (_ : Unit) => f_lightestWeight nc wt x = r) (fun _ _ => True) xN) [.ref (ad 1), .long x].toArray s 0 0 xN) (F0 m 5 ls []) := by
    intro n
    induction n with
    | zero =>
      intro i acc H locs ls hF hil hS hl
      rw [f_lightestWeight_L] at hF
      refine lv_iload hx hb dX1_lightestWeight_5 (lv_at hl 3 rfl) ?_
      refine lv_aload_n hx hb dX1_lightestWeight_7 rfl (lv_at hl 0 rfl) ?_
      have hR := xP0 hPr xnN hS
      refine va_get (D := (dC, dI)) (ci := 1) (v := .int (nI nc)) (C := RX1) (T := TX1) (N := 6) hx hb hts (xcons inX1) hown hK hR 0 rfl rfl 2 (by decide) hw0 (fun _ h9 => h9) rfl dX1_lightestWeight_8 ?_
      refine lv_icmp_ge (tgt := 76) hx hb dX1_lightestWeight_11 (by decide) (fun h1 => ?_) (fun h1 => absurd (nI_le (by omega) (by omega)) h1)
      refine lv_iload_n hx hb dX1_lightestWeight_76 rfl (lv_at hl 2 rfl) ?_
      exact W.iret (v := acc) hx hb hr (fun t ht hW => ⟨⟨_, (), rfl, hF, trivial⟩, hS.F ht⟩) hS.2.2 dX1_lightestWeight_77
    | succ n ih =>
      intro i acc H locs ls hF hil hS hl
      rw [f_lightestWeight_L] at hF
      refine lv_iload hx hb dX1_lightestWeight_5 (lv_at hl 3 rfl) ?_
      refine lv_aload_n hx hb dX1_lightestWeight_7 rfl (lv_at hl 0 rfl) ?_
      have hR := xP0 hPr xnN hS
      refine va_get (D := (dC, dI)) (ci := 1) (v := .int (nI nc)) (C := RX1) (T := TX1) (N := 6) hx hb hts (xcons inX1) hown hK hR 0 rfl rfl 2 (by decide) hw0 (fun _ h9 => h9) rfl dX1_lightestWeight_8 ?_
      refine lv_icmp_ge (tgt := 76) hx hb dX1_lightestWeight_11 (by decide) (fun h2 => absurd h2 (nI_ge (by omega) (by omega))) (fun h2 => ?_)
      refine lv_lload_n hx hb dX1_lightestWeight_14 rfl (lv_at hl 1 rfl) ?_
      refine lv_iload hx hb dX1_lightestWeight_15 (lv_at hl 3 rfl) ?_
      refine lv_lshr (v := (x >>> ((nI i).toInt64 &&& 63))) hx hb dX1_lightestWeight_17 rfl ?_
      refine lv_lconst (v := 1) hx hb dX1_lightestWeight_18 (by decide) ?_
      refine lv_land hx hb dX1_lightestWeight_19 ?_
      refine lv_lconst (v := 0) hx hb dX1_lightestWeight_20 (by decide) ?_
      refine W.lcmp hx hb dX1_lightestWeight_21 ?_
      refine lv_if_eq (tgt := 39) hx hb dX1_lightestWeight_22 (by decide) (fun h3 => ?_) (fun h3 => ?_)
      · have hF := hF.trans (if_pos h3)
        refine lv_iconst (v := 0) hx hb dX1_lightestWeight_39 (by decide) ?_
        refine lv_istore (lv' := [(5, .int 0), (0, .ref (ad 1)), (1, .long x), (3, .int acc), (4, .int (nI i))]) hx hb dX1_lightestWeight_40 hl (by decide) rfl (fun ls hl => ?_)
        refine lv_iload hx hb dX1_lightestWeight_42 (lv_at hl 0 rfl) ?_
        refine lv_if_eq (tgt := 70) hx hb dX1_lightestWeight_44 (by decide) (fun h4 => ?_) (fun h4 => absurd (by decide) h4)
        refine lv_iinc (k := 4) (v := (nI (i + 1))) (lv' := [(4, .int (nI (i + 1))), (5, .int 0), (0, .ref (ad 1)), (1, .long x), (3, .int acc)]) hx hb dX1_lightestWeight_70 hl rfl (xinc _) (by decide) rfl (fun ls hl => ?_)
        refine lv_goto (tgt := 5) hx hb dX1_lightestWeight_73 (by decide) ?_
        exact ih (i + 1) acc _ _ _ hF (by omega) hS (lv_sub hl [2, 3, 4, 0] rfl)
      · have hF := hF.trans (if_neg h3)
        refine lv_aload_n hx hb dX1_lightestWeight_25 rfl (lv_at hl 0 rfl) ?_
        refine va_get (D := (dC, dI)) (ci := 1) (v := .ref (ad 4)) (C := RX1) (T := TX1) (N := 6) hx hb hts (xcons inX1) hown hK hR 0 rfl rfl 5 (by decide) hw1 (fun _ h9 => h9) rfl dX1_lightestWeight_26 ?_
        refine lv_iload hx hb dX1_lightestWeight_29 (lv_at hl 3 rfl) ?_
        refine xr_iald hx hb hK hR 3 0 rfl rfl i (by omega) (by omega) dX1_lightestWeight_31 ?_
        refine lv_if_eq (tgt := 39) hx hb dX1_lightestWeight_32 (by decide) (fun h5 => ?_) (fun h5 => ?_)
        · have hF := hF.trans (if_pos h5)
          refine lv_iconst (v := 0) hx hb dX1_lightestWeight_39 (by decide) ?_
          refine lv_istore (lv' := [(5, .int 0), (0, .ref (ad 1)), (1, .long x), (3, .int acc), (4, .int (nI i))]) hx hb dX1_lightestWeight_40 hl (by decide) rfl (fun ls hl => ?_)
          refine lv_iload hx hb dX1_lightestWeight_42 (lv_at hl 0 rfl) ?_
          refine lv_if_eq (tgt := 70) hx hb dX1_lightestWeight_44 (by decide) (fun h6 => ?_) (fun h6 => absurd (by decide) h6)
          refine lv_iinc (k := 4) (v := (nI (i + 1))) (lv' := [(4, .int (nI (i + 1))), (5, .int 0), (0, .ref (ad 1)), (1, .long x), (3, .int acc)]) hx hb dX1_lightestWeight_70 hl rfl (xinc _) (by decide) rfl (fun ls hl => ?_)
          refine lv_goto (tgt := 5) hx hb dX1_lightestWeight_73 (by decide) ?_
          exact ih (i + 1) acc _ _ _ hF (by omega) hS (lv_sub hl [2, 3, 4, 0] rfl)
        · have hF := hF.trans (if_neg h5)
          refine lv_iconst (v := 1) hx hb dX1_lightestWeight_35 (by decide) ?_
          refine lv_goto (tgt := 40) hx hb dX1_lightestWeight_36 (by decide) ?_
          refine lv_istore (lv' := [(5, .int 1), (0, .ref (ad 1)), (1, .long x), (3, .int acc), (4, .int (nI i))]) hx hb dX1_lightestWeight_40 hl (by decide) rfl (fun ls hl => ?_)
          refine lv_iload hx hb dX1_lightestWeight_42 (lv_at hl 0 rfl) ?_
          refine lv_if_eq (tgt := 70) hx hb dX1_lightestWeight_44 (by decide) (fun h7 => absurd h7 (by decide)) (fun h7 => ?_)
          refine lv_iload_n hx hb dX1_lightestWeight_47 rfl (lv_at hl 3 rfl) ?_
          refine lv_if_eq (tgt := 62) hx hb dX1_lightestWeight_48 (by decide) (fun h8 => ?_) (fun h8 => ?_)
          · have hF := hF.trans (if_pos h8)
            refine lv_aload_n hx hb dX1_lightestWeight_62 rfl (lv_at hl 1 rfl) ?_
            refine va_get (D := (dC, dI)) (ci := 1) (v := .ref (ad 4)) (C := RX1) (T := TX1) (N := 6) hx hb hts (xcons inX1) hown hK hR 0 rfl rfl 5 (by decide) hw1 (fun _ h9 => h9) rfl dX1_lightestWeight_63 ?_
            refine lv_iload hx hb dX1_lightestWeight_66 (lv_at hl 4 rfl) ?_
            refine xr_iald hx hb hK hR 3 0 rfl rfl i (by omega) (by omega) dX1_lightestWeight_68 ?_
            refine lv_istore_n (lv' := [(3, .int (wt i)), (5, .int 1), (0, .ref (ad 1)), (1, .long x), (4, .int (nI i))]) hx hb dX1_lightestWeight_69 rfl hl (by decide) rfl (fun ls hl => ?_)
            refine lv_iinc (k := 4) (v := (nI (i + 1))) (lv' := [(4, .int (nI (i + 1))), (3, .int (wt i)), (5, .int 1), (0, .ref (ad 1)), (1, .long x)]) hx hb dX1_lightestWeight_70 hl rfl (xinc _) (by decide) rfl (fun ls hl => ?_)
            refine lv_goto (tgt := 5) hx hb dX1_lightestWeight_73 (by decide) ?_
            exact ih (i + 1) (wt i) _ _ _ hF (by omega) hS (lv_sub hl [3, 4, 1, 0] rfl)
          · have hF := hF.trans (if_neg h8)
            refine lv_aload_n hx hb dX1_lightestWeight_51 rfl (lv_at hl 1 rfl) ?_
            refine va_get (D := (dC, dI)) (ci := 1) (v := .ref (ad 4)) (C := RX1) (T := TX1) (N := 6) hx hb hts (xcons inX1) hown hK hR 0 rfl rfl 5 (by decide) hw1 (fun _ h9 => h9) rfl dX1_lightestWeight_52 ?_
            refine lv_iload hx hb dX1_lightestWeight_55 (lv_at hl 4 rfl) ?_
            refine xr_iald hx hb hK hR 3 0 rfl rfl i (by omega) (by omega) dX1_lightestWeight_57 ?_
            refine lv_iload_n hx hb dX1_lightestWeight_58 rfl (lv_at hl 3 rfl) ?_
            refine lv_icmp_ge (tgt := 70) hx hb dX1_lightestWeight_59 (by decide) (fun h9 => ?_) (fun h9 => ?_)
            · have hF := hF.trans (if_pos h9)
              refine lv_iinc (k := 4) (v := (nI (i + 1))) (lv' := [(4, .int (nI (i + 1))), (5, .int 1), (0, .ref (ad 1)), (1, .long x), (3, .int acc)]) hx hb dX1_lightestWeight_70 hl rfl (xinc _) (by decide) rfl (fun ls hl => ?_)
              refine lv_goto (tgt := 5) hx hb dX1_lightestWeight_73 (by decide) ?_
              exact ih (i + 1) acc _ _ _ hF (by omega) hS (lv_sub hl [2, 3, 4, 0] rfl)
            · have hF := hF.trans (if_neg h9)
              refine lv_aload_n hx hb dX1_lightestWeight_62 rfl (lv_at hl 1 rfl) ?_
              refine va_get (D := (dC, dI)) (ci := 1) (v := .ref (ad 4)) (C := RX1) (T := TX1) (N := 6) hx hb hts (xcons inX1) hown hK hR 0 rfl rfl 5 (by decide) hw1 (fun _ h9 => h9) rfl dX1_lightestWeight_63 ?_
              refine lv_iload hx hb dX1_lightestWeight_66 (lv_at hl 4 rfl) ?_
              refine xr_iald hx hb hK hR 3 0 rfl rfl i (by omega) (by omega) dX1_lightestWeight_68 ?_
              refine lv_istore_n (lv' := [(3, .int (wt i)), (5, .int 1), (0, .ref (ad 1)), (1, .long x), (4, .int (nI i))]) hx hb dX1_lightestWeight_69 rfl hl (by decide) rfl (fun ls hl => ?_)
              refine lv_iinc (k := 4) (v := (nI (i + 1))) (lv' := [(4, .int (nI (i + 1))), (3, .int (wt i)), (5, .int 1), (0, .ref (ad 1)), (1, .long x)]) hx hb dX1_lightestWeight_70 hl rfl (xinc _) (by decide) rfl (fun ls hl => ?_)
              refine lv_goto (tgt := 5) hx hb dX1_lightestWeight_73 (by decide) ?_
              exact ih (i + 1) (wt i) _ _ _ hF (by omega) hS (lv_sub hl [3, 4, 1, 0] rfl)
  exact lp5 nc 0 0 _ _ _ hF (by omega) hS (lv_sub hl [2, 3, 1, 0] rfl)
