def f_growBy (mt mf : Nat → Int32) (gh gv : Int32) (sv : Nat → Int32) (sr : Nat → Nat) (st i : Nat) : Int32 × Int32 × (Nat → Int32) × (Nat → Nat) × Nat :=
  if (nI st) < 10 then
    ((gh ||| (f_withoutValue mt mf i gh)), (gv ||| ((f_withoutValue mt mf i gh) &&& (f_literalsSayingTrue mt i))), (upd sv st (f_withoutValue mt mf i gh)), (va_up sr st i), (st + 1))
  else
    (gh, gv, sv, sr, st)
def f_subsetBehind_L (mt mf sv : Nat → Int32) (sr : Nat → Nat) : Nat → Int64 → Int32 → Int64
  | 0, found, inv =>
    found
  | n + 1, found, inv =>
    if (inv &&& (sv n)) = 0 then
      f_subsetBehind_L mt mf sv sr n found inv
    else
      f_subsetBehind_L mt mf sv sr n (found ||| ((1 : Int64) <<< ((nI (sr n)).toInt64 &&& 63))) (inv ||| (f_variablesOf mt mf (sr n)))
def f_subsetBehind (mt mf sv : Nat → Int32) (sr : Nat → Nat) (st i : Nat) : Int64 :=
  f_subsetBehind_L mt mf sv sr st ((1 : Int64) <<< ((nI i).toInt64 &&& 63)) (f_variablesOf mt mf i)
def f_subsetAt (ss : Nat → Int64) (sc : Nat) (j : Int32) : Int64 :=
  if j < 0 then
    0
  else
    if (nI sc) ≤ j then
      0
    else
      (ss j.toNatClampNeg)
set_option maxHeartbeats 4000000 in
set_option maxRecDepth 100000 in
theorem c_growBy (l : Launch) (dC : Nat → ClassId) (dI : Nat → Nat → Nat) (cI cL cZ : ClassId) (ad : Nat → Nat) (hinj : xI ad 15) (nv : Nat) (av : Int32) (nc : Nat) (mt mf wt : Nat → Int32) (ss : Nat → Int64) (sc : Nat) (avl : Int64) (gh gv : Int32) (sv : Nat → Int32) (sr : Nat → Nat) (st : Nat) (i : Nat) (hi : i < 40) (hst : st ≤ 10) : Met l yX0_growBy wsX0_growBy ({ frames := 1, cells := 0, slots := 0, locals := 22 }) (va_Pc [.ref (ad 5), .int (nI i)] (fun U => va_P (dC, dI) vwCl [(ad 1, .inr (1, [.int (nI nv), .int av, .int (nI nc), .ref (ad 2), .ref (ad 3), .ref (ad 4)])), (ad 2, .inl (cI, 40, .inl mt)), (ad 3, .inl (cI, 40, .inl mf)), (ad 4, .inl (cI, 40, .inl wt)), (ad 5, .inr (0, [.ref (ad 1), .ref (ad 6), .int (nI sc), .long avl, .int gh, .int gv, .ref (ad 7), .ref (ad 8), .int (nI st)])), (ad 6, .inl (cL, 40, .inr (.inl ss))), (ad 7, .inl (cI, 10, .inl sv)), (ad 8, .inl (cI, 10, .inl (xnI sr)))] U.heap ∧ va_K (dC, dI) vwCl [(cI, .int), (cL, .long), (cZ, .boolean)] U)) (va_Qv (fun u => f_growBy mt mf gh gv sv sr st i = u) (xB (dC, dI) vwCl (fun (u : Int32 × Int32 × (Nat → Int32) × (Nat → Nat) × Nat) => match u with | (gh1, gv1, sv1, sr1, st1) => [(ad 5, .inr (0, [.ref (ad 1), .ref (ad 6), .int (nI sc), .long avl, .int gh1, .int gv1, .ref (ad 7), .ref (ad 8), .int (nI st1)])), (ad 6, .inl (cL, 40, .inr (.inl ss))), (ad 7, .inl (cI, 10, .inl sv1)), (ad 8, .inl (cI, 10, .inl (xnI sr1)))])) (xA ad [5, 6, 7, 8])) 0 0 (xA ad [5, 6, 7, 8]) := by
  refine Met.ofW (cc := cX0_growBy) (maxL := 3) (ret := none) (by decide) rfl ?_
  intro p e s m args below meth c s₁ B hml hvv
  obtain ⟨rfl, hP0, hK⟩ := hvv
  have hx := B.exec
  have hb := B.bytes
  have hr := B.returns
  have hts := atoms_spec (ws := wsX0_growBy) B.pre
  have hown : s.vm.findClass RX0 = some m.cls := findClass_of_methodNamed B.named
  have hlocks := B.notSynchronized
  have hw0 : (.fieldLink RX0 60 "WeightedClauses$Bounds" "stepCount" "I" : Cond).before _ s = true := hts _ (List.mem_cons_of_mem _ wd_106)
  have hw1 : (.fieldLink RX0 22 "WeightedClauses$Bounds" "formula" "LWeightedClauses$Formula;" : Cond).before _ s = true := hts _ (List.mem_cons_of_mem _ wd_98)
  have hw2 : (.fieldLink RX0 54 "WeightedClauses$Bounds" "grownHave" "I" : Cond).before _ s = true := hts _ (List.mem_cons_of_mem _ wd_102)
  have hw3 : (.fieldLink RX0 57 "WeightedClauses$Bounds" "grownValues" "I" : Cond).before _ s = true := hts _ (List.mem_cons_of_mem _ wd_103)
  have hw4 : (.fieldLink RX0 15 "WeightedClauses$Bounds" "stepVariable" "[I" : Cond).before _ s = true := hts _ (List.mem_cons_of_mem _ wd_104)
  have hw5 : (.fieldLink RX0 19 "WeightedClauses$Bounds" "stepReason" "[I" : Cond).before _ s = true := hts _ (List.mem_cons_of_mem _ wd_105)
  have hPr : va_P (dC, dI) vwCl [(ad 1, .inr (1, [.int (nI nv), .int av, .int (nI nc), .ref (ad 2), .ref (ad 3), .ref (ad 4)])), (ad 2, .inl (cI, 40, .inl mt)), (ad 3, .inl (cI, 40, .inl mf)), (ad 4, .inl (cI, 40, .inl wt))] s.heap := hP0.sub [0, 1, 2, 3] rfl
  have hP : va_P (dC, dI) vwCl [(ad 5, .inr (0, [.ref (ad 1), .ref (ad 6), .int (nI sc), .long avl, .int gh, .int gv, .ref (ad 7), .ref (ad 8), .int (nI st)])), (ad 6, .inl (cL, 40, .inr (.inl ss))), (ad 7, .inl (cI, 10, .inl sv)), (ad 8, .inl (cI, 10, .inl (xnI sr)))] s.heap := hP0.sub [4, 5, 6, 7] rfl
  have hS : va_S (xA ad [5, 6, 7, 8]) s.heap s.heap [] := va_S.rf
  have hl := lv_entry [.ref (ad 5), .int (nI i)] (n := 3) (Nat.le_of_ble_eq_true rfl)
  rw [lg_entry_eq]
  generalize (lg_sl [.ref (ad 5), .int (nI i)] ++ List.replicate (3 - (lg_sl [.ref (ad 5), .int (nI i)]).length) Slot.unset).toArray = ls at hl ⊢
  have hl : lv_has ls 3 [(0, .ref (ad 5)), (1, .int (nI i))] := hl
  have hF := Eq.refl (f_growBy mt mf gh gv sv sr st i)
  conv at hF => rhs; unfold f_growBy
  refine lv_aload_n hx hb dX0_growBy_0 rfl (lv_at hl 0 rfl) ?_
  refine va_get (D := (dC, dI)) (ci := 0) (v := .int (nI st)) (C := RX0) (T := TX0) (N := 9) hx hb hts (xcons inX0) hown hK hP 0 rfl rfl 8 (by decide) hw0 (fun _ h9 => h9) rfl dX0_growBy_1 ?_
  refine lv_bipush (v := 10) hx hb dX0_growBy_4 (by decide) ?_
  refine lv_icmp_lt (tgt := 10) hx hb dX0_growBy_6 (by decide) (fun h1 => ?_) (fun h1 => ?_)
  · have hF := hF.trans (if_pos h1)
    have hlt := xlt 10 h1 (by omega) (by decide)
    refine lv_aload_n hx hb dX0_growBy_10 rfl (lv_at hl 0 rfl) ?_
    refine va_get (D := (dC, dI)) (ci := 0) (v := .ref (ad 1)) (C := RX0) (T := TX0) (N := 9) hx hb hts (xcons inX0) hown hK hP 0 rfl rfl 0 (by decide) hw1 (fun _ h9 => h9) rfl dX0_growBy_11 ?_
    refine lv_iload_n hx hb dX0_growBy_14 rfl (lv_at hl 1 rfl) ?_
    refine lv_aload_n hx hb dX0_growBy_15 rfl (lv_at hl 0 rfl) ?_
    refine va_get (D := (dC, dI)) (ci := 0) (v := .int gh) (C := RX0) (T := TX0) (N := 9) hx hb hts (xcons inX0) hown hK hP 0 rfl rfl 4 (by decide) hw2 (fun _ h9 => h9) rfl dX0_growBy_16 ?_
    have hR := xP0 hPr (xnA hinj [1, 2, 3, 4] rfl (by decide)) hS
    refine xro_i (va_runV (As := [.int (nI i), .int gh]) (rest := []) ⟨hx, hb, hml, hown, hts⟩ (c_withoutValue l dC dI cI cL cZ ad hinj nv av nc mt mf wt i (by omega) gh) (xcwV 2 hts wd_257 wd_35 wd_287 wd_255 wd_256 rfl rfl (by decide +kernel) ⟨Nat.le_of_ble_eq_true rfl, Nat.le_of_ble_eq_true rfl⟩) (xpreV (va_recv hK hR rfl (q0 := 0) rfl) hR hK) rfl rfl hl.1 rfl (lv_room (Nat.le_of_ble_eq_true rfl)) dX0_growBy_19 ⟨Nat.le_of_ble_eq_true rfl, Nat.le_of_ble_eq_true rfl⟩) hS (fun H locs hk hS => ?_)
    have hP := xkeep hP hk
    refine lv_istore_n (lv' := [(2, .int (f_withoutValue mt mf i gh)), (0, .ref (ad 5)), (1, .int (nI i))]) hx hb dX0_growBy_22 rfl hl (by decide) rfl (fun ls hl => ?_)
    refine lv_aload_n hx hb dX0_growBy_23 rfl (lv_at hl 1 rfl) ?_
    refine lv_dup hx hb dX0_growBy_24 rfl ?_
    refine va_get (D := (dC, dI)) (ci := 0) (v := .int gh) (C := RX0) (T := TX0) (N := 9) hx hb hts (xcons inX0) hown hK hP 0 rfl rfl 4 (by decide) hw2 (fun _ h9 => h9) rfl dX0_growBy_25 ?_
    refine lv_iload_n hx hb dX0_growBy_28 rfl (lv_at hl 0 rfl) ?_
    refine lv_ior hx hb dX0_growBy_29 ?_
    refine va_put (D := (dC, dI)) (ci := 0) (v := .int (gh ||| (f_withoutValue mt mf i gh))) (ty := .int) (C := RX0) (T := TX0) (N := 9) hx hb hts (xcons inX0) tyX0 tyX0_ok nX0 hown hK hP (xD hinj [5, 6, 7, 8] rfl (by decide) (by decide)) hS 0 rfl rfl 4 (by decide) hw2 (fun _ h9 => h9) rfl (by decide +kernel) rfl rfl (Nat.le_of_ble_eq_true rfl) dX0_growBy_30 (fun H locs hP _ hS => ?_)
    have hP : va_P (dC, dI) vwCl [(ad 5, .inr (0, [.ref (ad 1), .ref (ad 6), .int (nI sc), .long avl, .int (gh ||| (f_withoutValue mt mf i gh)), .int gv, .ref (ad 7), .ref (ad 8), .int (nI st)])), (ad 6, .inl (cL, 40, .inr (.inl ss))), (ad 7, .inl (cI, 10, .inl sv)), (ad 8, .inl (cI, 10, .inl (xnI sr)))] H := hP
    refine lv_aload_n hx hb dX0_growBy_33 rfl (lv_at hl 1 rfl) ?_
    refine lv_dup hx hb dX0_growBy_34 rfl ?_
    refine va_get (D := (dC, dI)) (ci := 0) (v := .int gv) (C := RX0) (T := TX0) (N := 9) hx hb hts (xcons inX0) hown hK hP 0 rfl rfl 5 (by decide) hw3 (fun _ h9 => h9) rfl dX0_growBy_35 ?_
    refine lv_iload_n hx hb dX0_growBy_38 rfl (lv_at hl 0 rfl) ?_
    refine lv_aload_n hx hb dX0_growBy_39 rfl (lv_at hl 1 rfl) ?_
    refine va_get (D := (dC, dI)) (ci := 0) (v := .ref (ad 1)) (C := RX0) (T := TX0) (N := 9) hx hb hts (xcons inX0) hown hK hP 0 rfl rfl 0 (by decide) hw1 (fun _ h9 => h9) rfl dX0_growBy_40 ?_
    refine lv_iload_n hx hb dX0_growBy_43 rfl (lv_at hl 2 rfl) ?_
    have hR := xP0 hPr (xnA hinj [1, 2, 3, 4] rfl (by decide)) hS
    refine xro_i (va_runV (As := [.int (nI i)]) (rest := [.int (f_withoutValue mt mf i gh), .int gv, .ref (ad 5)]) ⟨hx, hb, hml, hown, hts⟩ (c_literalsSayingTrue l dC dI cI cL cZ ad hinj nv av nc mt mf wt i (by omega)) (xcwV 1 hts wd_302 wd_35 wd_299 wd_300 wd_301 rfl rfl (by decide +kernel) ⟨Nat.le_of_ble_eq_true rfl, Nat.le_of_ble_eq_true rfl⟩) (xpreV (va_recv hK hR rfl (q0 := 0) rfl) hR hK) rfl rfl hl.1 rfl (lv_room (Nat.le_of_ble_eq_true rfl)) dX0_growBy_44 ⟨Nat.le_of_ble_eq_true rfl, Nat.le_of_ble_eq_true rfl⟩) hS (fun H locs hk hS => ?_)
    have hP := xkeep hP hk
    refine lv_iand hx hb dX0_growBy_47 ?_
    refine lv_ior hx hb dX0_growBy_48 ?_
    refine va_put (D := (dC, dI)) (ci := 0) (v := .int (gv ||| ((f_withoutValue mt mf i gh) &&& (f_literalsSayingTrue mt i)))) (ty := .int) (C := RX0) (T := TX0) (N := 9) hx hb hts (xcons inX0) tyX0 tyX0_ok nX0 hown hK hP (xD hinj [5, 6, 7, 8] rfl (by decide) (by decide)) hS 0 rfl rfl 5 (by decide) hw3 (fun _ h9 => h9) rfl (by decide +kernel) rfl rfl (Nat.le_of_ble_eq_true rfl) dX0_growBy_49 (fun H locs hP _ hS => ?_)
    have hP : va_P (dC, dI) vwCl [(ad 5, .inr (0, [.ref (ad 1), .ref (ad 6), .int (nI sc), .long avl, .int (gh ||| (f_withoutValue mt mf i gh)), .int (gv ||| ((f_withoutValue mt mf i gh) &&& (f_literalsSayingTrue mt i))), .ref (ad 7), .ref (ad 8), .int (nI st)])), (ad 6, .inl (cL, 40, .inr (.inl ss))), (ad 7, .inl (cI, 10, .inl sv)), (ad 8, .inl (cI, 10, .inl (xnI sr)))] H := hP
    refine lv_aload_n hx hb dX0_growBy_52 rfl (lv_at hl 1 rfl) ?_
    refine va_get (D := (dC, dI)) (ci := 0) (v := .ref (ad 7)) (C := RX0) (T := TX0) (N := 9) hx hb hts (xcons inX0) hown hK hP 0 rfl rfl 6 (by decide) hw4 (fun _ h9 => h9) rfl dX0_growBy_53 ?_
    refine lv_aload_n hx hb dX0_growBy_56 rfl (lv_at hl 1 rfl) ?_
    refine va_get (D := (dC, dI)) (ci := 0) (v := .int (nI st)) (C := RX0) (T := TX0) (N := 9) hx hb hts (xcons inX0) hown hK hP 0 rfl rfl 8 (by decide) hw0 (fun _ h9 => h9) rfl dX0_growBy_57 ?_
    refine lv_iload_n hx hb dX0_growBy_60 rfl (lv_at hl 0 rfl) ?_
    refine xr_iast hx hb hK hP (xD hinj [5, 6, 7, 8] rfl (by decide) (by decide)) hS 2 0 rfl rfl st (by omega) (by omega) dX0_growBy_61 (fun H locs hP hS => ?_)
    have hP : va_P (dC, dI) vwCl [(ad 5, .inr (0, [.ref (ad 1), .ref (ad 6), .int (nI sc), .long avl, .int (gh ||| (f_withoutValue mt mf i gh)), .int (gv ||| ((f_withoutValue mt mf i gh) &&& (f_literalsSayingTrue mt i))), .ref (ad 7), .ref (ad 8), .int (nI st)])), (ad 6, .inl (cL, 40, .inr (.inl ss))), (ad 7, .inl (cI, 10, .inl (upd sv st (f_withoutValue mt mf i gh)))), (ad 8, .inl (cI, 10, .inl (xnI sr)))] H := hP
    refine lv_aload_n hx hb dX0_growBy_62 rfl (lv_at hl 1 rfl) ?_
    refine va_get (D := (dC, dI)) (ci := 0) (v := .ref (ad 8)) (C := RX0) (T := TX0) (N := 9) hx hb hts (xcons inX0) hown hK hP 0 rfl rfl 7 (by decide) hw5 (fun _ h9 => h9) rfl dX0_growBy_63 ?_
    refine lv_aload_n hx hb dX0_growBy_66 rfl (lv_at hl 1 rfl) ?_
    refine va_get (D := (dC, dI)) (ci := 0) (v := .int (nI st)) (C := RX0) (T := TX0) (N := 9) hx hb hts (xcons inX0) hown hK hP 0 rfl rfl 8 (by decide) hw0 (fun _ h9 => h9) rfl dX0_growBy_67 ?_
    refine lv_iload_n hx hb dX0_growBy_70 rfl (lv_at hl 2 rfl) ?_
    refine xr_iast hx hb hK hP (xD hinj [5, 6, 7, 8] rfl (by decide) (by decide)) hS 3 0 rfl rfl st (by omega) (by omega) dX0_growBy_71 (fun H locs hP hS => ?_)
    have hP : va_P (dC, dI) vwCl [(ad 5, .inr (0, [.ref (ad 1), .ref (ad 6), .int (nI sc), .long avl, .int (gh ||| (f_withoutValue mt mf i gh)), .int (gv ||| ((f_withoutValue mt mf i gh) &&& (f_literalsSayingTrue mt i))), .ref (ad 7), .ref (ad 8), .int (nI st)])), (ad 6, .inl (cL, 40, .inr (.inl ss))), (ad 7, .inl (cI, 10, .inl (upd sv st (f_withoutValue mt mf i gh)))), (ad 8, .inl (cI, 10, .inl (xnI (va_up sr st i))))] H := by rw [xnI_up]; exact hP
    refine lv_aload_n hx hb dX0_growBy_72 rfl (lv_at hl 1 rfl) ?_
    refine lv_dup hx hb dX0_growBy_73 rfl ?_
    refine va_get (D := (dC, dI)) (ci := 0) (v := .int (nI st)) (C := RX0) (T := TX0) (N := 9) hx hb hts (xcons inX0) hown hK hP 0 rfl rfl 8 (by decide) hw0 (fun _ h9 => h9) rfl dX0_growBy_74 ?_
    refine lv_iconst (v := 1) hx hb dX0_growBy_77 (by decide) ?_
    refine xr_add1 hx hb dX0_growBy_78 ?_
    refine va_put (D := (dC, dI)) (ci := 0) (v := .int (nI (st + 1))) (ty := .int) (C := RX0) (T := TX0) (N := 9) hx hb hts (xcons inX0) tyX0 tyX0_ok nX0 hown hK hP (xD hinj [5, 6, 7, 8] rfl (by decide) (by decide)) hS 0 rfl rfl 8 (by decide) hw0 (fun _ h9 => h9) rfl (by decide +kernel) rfl rfl (Nat.le_of_ble_eq_true rfl) dX0_growBy_79 (fun H locs hP _ hS => ?_)
    have hP : va_P (dC, dI) vwCl [(ad 5, .inr (0, [.ref (ad 1), .ref (ad 6), .int (nI sc), .long avl, .int (gh ||| (f_withoutValue mt mf i gh)), .int (gv ||| ((f_withoutValue mt mf i gh) &&& (f_literalsSayingTrue mt i))), .ref (ad 7), .ref (ad 8), .int (nI (st + 1))])), (ad 6, .inl (cL, 40, .inr (.inl ss))), (ad 7, .inl (cI, 10, .inl (upd sv st (f_withoutValue mt mf i gh)))), (ad 8, .inl (cI, 10, .inl (xnI (va_up sr st i))))] H := hP
    exact W.vret hx hb hr (fun t ht hW => ⟨⟨((gh ||| (f_withoutValue mt mf i gh)), (gv ||| ((f_withoutValue mt mf i gh) &&& (f_literalsSayingTrue mt i))), (upd sv st (f_withoutValue mt mf i gh)), (va_up sr st i), (st + 1)), rfl, hF, xBi ht hP⟩, hS.F ht⟩) hS.2.2 dX0_growBy_82
  · have hF := hF.trans (if_neg h1)
    exact W.vret hx hb hr (fun t ht hW => ⟨⟨(gh, gv, sv, sr, st), rfl, hF, xBi ht hP⟩, hS.F ht⟩) hS.2.2 dX0_growBy_9
set_option maxHeartbeats 4000000 in
set_option maxRecDepth 100000 in
theorem c_subsetBehind (l : Launch) (dC : Nat → ClassId) (dI : Nat → Nat → Nat) (cI cL cZ : ClassId) (ad : Nat → Nat) (hinj : xI ad 15) (nv : Nat) (av : Int32) (nc : Nat) (mt mf wt : Nat → Int32) (ss : Nat → Int64) (sc : Nat) (avl : Int64) (gh gv : Int32) (sv : Nat → Int32) (sr : Nat → Nat) (st : Nat) (i : Nat) (hi : i < 40) (hst : st ≤ 10) (hsr : ∀ j, j < st → sr j < 40) : Met l yX0_subsetBehind wsX0_subsetBehind ({ frames := 1, cells := 0, slots := 0, locals := 21 }) (va_Pc [.ref (ad 5), .int (nI i)] (fun U => va_P (dC, dI) vwCl [(ad 1, .inr (1, [.int (nI nv), .int av, .int (nI nc), .ref (ad 2), .ref (ad 3), .ref (ad 4)])), (ad 2, .inl (cI, 40, .inl mt)), (ad 3, .inl (cI, 40, .inl mf)), (ad 4, .inl (cI, 40, .inl wt)), (ad 5, .inr (0, [.ref (ad 1), .ref (ad 6), .int (nI sc), .long avl, .int gh, .int gv, .ref (ad 7), .ref (ad 8), .int (nI st)])), (ad 6, .inl (cL, 40, .inr (.inl ss))), (ad 7, .inl (cI, 10, .inl sv)), (ad 8, .inl (cI, 10, .inl (xnI sr)))] U.heap ∧ va_K (dC, dI) vwCl [(cI, .int), (cL, .long), (cZ, .boolean)] U)) (va_Ql (fun r (_ : Unit) => f_subsetBehind mt mf sv sr st i = r) (fun _ _ => True) xN) 0 0 xN := by
  refine Met.ofW (cc := cX0_subsetBehind) (maxL := 6) (ret := (some .long)) (by decide) rfl ?_
  intro p e s m args below meth c s₁ B hml hvv
  obtain ⟨rfl, hP0, hK⟩ := hvv
  have hx := B.exec
  have hb := B.bytes
  have hr := B.returns
  have hts := atoms_spec (ws := wsX0_subsetBehind) B.pre
  have hown : s.vm.findClass RX0 = some m.cls := findClass_of_methodNamed B.named
  have hlocks := B.notSynchronized
  have hw0 : (.fieldLink RX0 22 "WeightedClauses$Bounds" "formula" "LWeightedClauses$Formula;" : Cond).before _ s = true := hts _ (List.mem_cons_of_mem _ wd_98)
  have hw1 : (.fieldLink RX0 60 "WeightedClauses$Bounds" "stepCount" "I" : Cond).before _ s = true := hts _ (List.mem_cons_of_mem _ wd_106)
  have hw2 : (.fieldLink RX0 15 "WeightedClauses$Bounds" "stepVariable" "[I" : Cond).before _ s = true := hts _ (List.mem_cons_of_mem _ wd_104)
  have hw3 : (.fieldLink RX0 19 "WeightedClauses$Bounds" "stepReason" "[I" : Cond).before _ s = true := hts _ (List.mem_cons_of_mem _ wd_105)
  have hPr : va_P (dC, dI) vwCl [(ad 1, .inr (1, [.int (nI nv), .int av, .int (nI nc), .ref (ad 2), .ref (ad 3), .ref (ad 4)])), (ad 2, .inl (cI, 40, .inl mt)), (ad 3, .inl (cI, 40, .inl mf)), (ad 4, .inl (cI, 40, .inl wt)), (ad 5, .inr (0, [.ref (ad 1), .ref (ad 6), .int (nI sc), .long avl, .int gh, .int gv, .ref (ad 7), .ref (ad 8), .int (nI st)])), (ad 6, .inl (cL, 40, .inr (.inl ss))), (ad 7, .inl (cI, 10, .inl sv)), (ad 8, .inl (cI, 10, .inl (xnI sr)))] s.heap := hP0.sub [0, 1, 2, 3, 4, 5, 6, 7] rfl
  have hS : va_S xN s.heap s.heap [] := va_S.rf
  have hl := lv_entry [.ref (ad 5), .int (nI i)] (n := 6) (Nat.le_of_ble_eq_true rfl)
  rw [lg_entry_eq]
  generalize (lg_sl [.ref (ad 5), .int (nI i)] ++ List.replicate (6 - (lg_sl [.ref (ad 5), .int (nI i)]).length) Slot.unset).toArray = ls at hl ⊢
  have hl : lv_has ls 6 [(0, .ref (ad 5)), (1, .int (nI i))] := hl
  have hF := Eq.refl (f_subsetBehind mt mf sv sr st i)
  conv at hF => rhs; unfold f_subsetBehind
  refine lv_lconst (v := 1) hx hb dX0_subsetBehind_0 (by decide) ?_
  refine lv_iload_n hx hb dX0_subsetBehind_1 rfl (lv_at hl 1 rfl) ?_
  refine lv_lshl (v := ((1 : Int64) <<< ((nI i).toInt64 &&& 63))) hx hb dX0_subsetBehind_2 rfl ?_
  refine lv_lstore_n (lv' := [(2, .long ((1 : Int64) <<< ((nI i).toInt64 &&& 63))), (0, .ref (ad 5)), (1, .int (nI i))]) hx hb dX0_subsetBehind_3 rfl hl (by decide) rfl (fun ls hl => ?_)
  refine lv_aload_n hx hb dX0_subsetBehind_4 rfl (lv_at hl 1 rfl) ?_
  have hR := xP0 hPr xnN hS
  refine va_get (D := (dC, dI)) (ci := 0) (v := .ref (ad 1)) (C := RX0) (T := TX0) (N := 9) hx hb hts (xcons inX0) hown hK hR 4 rfl rfl 0 (by decide) hw0 (fun _ h9 => h9) rfl dX0_subsetBehind_5 ?_
  refine lv_iload_n hx hb dX0_subsetBehind_8 rfl (lv_at hl 2 rfl) ?_
  refine xro_i (va_runV (As := [.int (nI i)]) (rest := []) ⟨hx, hb, hml, hown, hts⟩ (c_variablesOf l dC dI cI cL cZ ad hinj nv av nc mt mf wt i (by omega)) (xcwV 1 hts wd_282 wd_35 wd_279 wd_280 wd_281 rfl rfl (by decide +kernel) ⟨Nat.le_of_ble_eq_true rfl, Nat.le_of_ble_eq_true rfl⟩) (xpreV (va_recv hK hR rfl (q0 := 0) rfl) (hR.sub [0, 1, 2, 3] rfl) hK) rfl rfl hl.1 rfl (lv_room (Nat.le_of_ble_eq_true rfl)) dX0_subsetBehind_9 ⟨Nat.le_of_ble_eq_true rfl, Nat.le_of_ble_eq_true rfl⟩) hS (fun H locs hk hS => ?_)
  refine lv_istore (lv' := [(4, .int (f_variablesOf mt mf i)), (2, .long ((1 : Int64) <<< ((nI i).toInt64 &&& 63))), (0, .ref (ad 5)), (1, .int (nI i))]) hx hb dX0_subsetBehind_12 hl (by decide) rfl (fun ls hl => ?_)
  refine lv_aload_n hx hb dX0_subsetBehind_14 rfl (lv_at hl 2 rfl) ?_
  have hR := xP0 hPr xnN hS
  refine va_get (D := (dC, dI)) (ci := 0) (v := .int (nI st)) (C := RX0) (T := TX0) (N := 9) hx hb hts (xcons inX0) hown hK hR 4 rfl rfl 8 (by decide) hw1 (fun _ h9 => h9) rfl dX0_subsetBehind_15 ?_
  refine lv_iconst (v := 1) hx hb dX0_subsetBehind_18 (by decide) ?_
  refine lv_isub hx hb dX0_subsetBehind_19 ?_
  refine lv_istore (lv' := [(5, .int ((nI st) - 1)), (4, .int (f_variablesOf mt mf i)), (2, .long ((1 : Int64) <<< ((nI i).toInt64 &&& 63))), (0, .ref (ad 5)), (1, .int (nI i))]) hx hb dX0_subsetBehind_20 hl (by decide) rfl (fun ls hl => ?_)
  have lp22 : ∀ (n : Nat) (z : Int32) (found : Int64) (inv : Int32) (H : Heap) (locs : List Loc) (ls : Array Slot), f_subsetBehind mt mf sv sr st i = f_subsetBehind_L mt mf sv sr n found inv → z + 1 = nI n → n ≤ st → va_S xN s.heap H locs → lv_has ls 6 [(0, .ref (ad 5)), (2, .long found), (4, .int inv), (5, .int z)] → W p l e (headSpec wsX0_subsetBehind ({ frames := 1, cells := 0, slots := 0, locals := 21 })).room s m [.ref (ad 5), .int (nI i)].toArray below meth c H locs 0 0 (MQ below (va_Ql (fun r (_ : Unit) => f_subsetBehind mt mf sv sr st i = r) (fun _ _ => True) xN) [.ref (ad 5), .int (nI i)].toArray s 0 0 xN) (F0 m 22 ls []) := by
    intro n
    induction n with
    | zero =>
      intro z found inv H locs ls hF hz hn hS hl
      rw [f_subsetBehind_L] at hF
      refine lv_iload hx hb dX0_subsetBehind_22 (lv_at hl 3 rfl) ?_
      refine lv_if_lt (tgt := 77) hx hb dX0_subsetBehind_24 (by decide) (fun h1 => ?_) (fun h1 => absurd (xneg hz) h1)
      refine lv_lload_n hx hb dX0_subsetBehind_77 rfl (lv_at hl 1 rfl) ?_
      exact W.lret (v := found) hx hb hr (fun t ht hW => ⟨⟨_, (), rfl, hF, trivial⟩, hS.F ht⟩) hS.2.2 dX0_subsetBehind_78
    | succ n ih =>
      intro z found inv H locs ls hF hz hn hS hl
      rw [f_subsetBehind_L] at hF
      obtain rfl : z = nI n := xsucc hz
      refine lv_iload hx hb dX0_subsetBehind_22 (lv_at hl 3 rfl) ?_
      refine lv_if_lt (tgt := 77) hx hb dX0_subsetBehind_24 (by decide) (fun h2 => absurd h2 (nI_pos (by omega))) (fun h2 => ?_)
      refine lv_iload hx hb dX0_subsetBehind_27 (lv_at hl 2 rfl) ?_
      refine lv_aload_n hx hb dX0_subsetBehind_29 rfl (lv_at hl 0 rfl) ?_
      have hR := xP0 hPr xnN hS
      refine va_get (D := (dC, dI)) (ci := 0) (v := .ref (ad 7)) (C := RX0) (T := TX0) (N := 9) hx hb hts (xcons inX0) hown hK hR 4 rfl rfl 6 (by decide) hw2 (fun _ h9 => h9) rfl dX0_subsetBehind_30 ?_
      refine lv_iload hx hb dX0_subsetBehind_33 (lv_at hl 3 rfl) ?_
      refine xr_iald hx hb hK hR 6 0 rfl rfl n (by omega) (by omega) dX0_subsetBehind_35 ?_
      refine lv_iand hx hb dX0_subsetBehind_36 ?_
      refine lv_if_eq (tgt := 71) hx hb dX0_subsetBehind_37 (by decide) (fun h3 => ?_) (fun h3 => ?_)
      · have hF := hF.trans (if_pos h3)
        refine lv_iinc (k := 3) (v := ((nI n) - 1)) (lv' := [(5, .int ((nI n) - 1)), (0, .ref (ad 5)), (2, .long found), (4, .int inv)]) hx hb dX0_subsetBehind_71 hl rfl (xdec1 _) (by decide) rfl (fun ls hl => ?_)
        refine lv_goto (tgt := 22) hx hb dX0_subsetBehind_74 (by decide) ?_
        exact ih ((nI n) - 1) found inv _ _ _ hF (by simp) (by omega) hS (lv_sub hl [1, 2, 3, 0] rfl)
      · have hF := hF.trans (if_neg h3)
        refine lv_lload_n hx hb dX0_subsetBehind_40 rfl (lv_at hl 1 rfl) ?_
        refine lv_lconst (v := 1) hx hb dX0_subsetBehind_41 (by decide) ?_
        refine lv_aload_n hx hb dX0_subsetBehind_42 rfl (lv_at hl 0 rfl) ?_
        refine va_get (D := (dC, dI)) (ci := 0) (v := .ref (ad 8)) (C := RX0) (T := TX0) (N := 9) hx hb hts (xcons inX0) hown hK hR 4 rfl rfl 7 (by decide) hw3 (fun _ h9 => h9) rfl dX0_subsetBehind_43 ?_
        refine lv_iload hx hb dX0_subsetBehind_46 (lv_at hl 3 rfl) ?_
        refine xr_iald hx hb hK hR 7 0 rfl rfl n (by omega) (by omega) dX0_subsetBehind_48 ?_
        refine lv_lshl (v := ((1 : Int64) <<< ((nI (sr n)).toInt64 &&& 63))) hx hb dX0_subsetBehind_49 rfl ?_
        refine lv_lor hx hb dX0_subsetBehind_50 ?_
        refine lv_lstore_n (lv' := [(2, .long (found ||| ((1 : Int64) <<< ((nI (sr n)).toInt64 &&& 63)))), (0, .ref (ad 5)), (4, .int inv), (5, .int (nI n))]) hx hb dX0_subsetBehind_51 rfl hl (by decide) rfl (fun ls hl => ?_)
        refine lv_iload hx hb dX0_subsetBehind_52 (lv_at hl 2 rfl) ?_
        refine lv_aload_n hx hb dX0_subsetBehind_54 rfl (lv_at hl 1 rfl) ?_
        refine va_get (D := (dC, dI)) (ci := 0) (v := .ref (ad 1)) (C := RX0) (T := TX0) (N := 9) hx hb hts (xcons inX0) hown hK hR 4 rfl rfl 0 (by decide) hw0 (fun _ h9 => h9) rfl dX0_subsetBehind_55 ?_
        refine lv_aload_n hx hb dX0_subsetBehind_58 rfl (lv_at hl 1 rfl) ?_
        refine va_get (D := (dC, dI)) (ci := 0) (v := .ref (ad 8)) (C := RX0) (T := TX0) (N := 9) hx hb hts (xcons inX0) hown hK hR 4 rfl rfl 7 (by decide) hw3 (fun _ h9 => h9) rfl dX0_subsetBehind_59 ?_
        refine lv_iload hx hb dX0_subsetBehind_62 (lv_at hl 3 rfl) ?_
        refine xr_iald hx hb hK hR 7 0 rfl rfl n (by omega) (by omega) dX0_subsetBehind_64 ?_
        refine xro_i (va_runV (As := [.int (nI (sr n))]) (rest := [.int inv]) ⟨hx, hb, hml, hown, hts⟩ (c_variablesOf l dC dI cI cL cZ ad hinj nv av nc mt mf wt (sr n) (hsr n (by omega))) (xcwV 1 hts wd_282 wd_35 wd_279 wd_280 wd_281 rfl rfl (by decide +kernel) ⟨Nat.le_of_ble_eq_true rfl, Nat.le_of_ble_eq_true rfl⟩) (xpreV (va_recv hK hR rfl (q0 := 0) rfl) (hR.sub [0, 1, 2, 3] rfl) hK) rfl rfl hl.1 rfl (lv_room (Nat.le_of_ble_eq_true rfl)) dX0_subsetBehind_65 ⟨Nat.le_of_ble_eq_true rfl, Nat.le_of_ble_eq_true rfl⟩) hS (fun H locs hk hS => ?_)
        refine lv_ior hx hb dX0_subsetBehind_68 ?_
        refine lv_istore (lv' := [(4, .int (inv ||| (f_variablesOf mt mf (sr n)))), (2, .long (found ||| ((1 : Int64) <<< ((nI (sr n)).toInt64 &&& 63)))), (0, .ref (ad 5)), (5, .int (nI n))]) hx hb dX0_subsetBehind_69 hl (by decide) rfl (fun ls hl => ?_)
        refine lv_iinc (k := 3) (v := ((nI n) - 1)) (lv' := [(5, .int ((nI n) - 1)), (4, .int (inv ||| (f_variablesOf mt mf (sr n)))), (2, .long (found ||| ((1 : Int64) <<< ((nI (sr n)).toInt64 &&& 63)))), (0, .ref (ad 5))]) hx hb dX0_subsetBehind_71 hl rfl (xdec1 _) (by decide) rfl (fun ls hl => ?_)
        refine lv_goto (tgt := 22) hx hb dX0_subsetBehind_74 (by decide) ?_
        exact ih ((nI n) - 1) (found ||| ((1 : Int64) <<< ((nI (sr n)).toInt64 &&& 63))) (inv ||| (f_variablesOf mt mf (sr n))) _ _ _ hF (by simp) (by omega) hS (lv_sub hl [3, 2, 1, 0] rfl)
  exact lp22 st ((nI st) - 1) ((1 : Int64) <<< ((nI i).toInt64 &&& 63)) (f_variablesOf mt mf i) _ _ _ hF (by simp) (Nat.le_refl _) hS (lv_sub hl [3, 2, 1, 0] rfl)
set_option maxHeartbeats 4000000 in
set_option maxRecDepth 100000 in
theorem c_subsetAt (l : Launch) (dC : Nat → ClassId) (dI : Nat → Nat → Nat) (cI cL cZ : ClassId) (ad : Nat → Nat) (hinj : xI ad 15) (ss : Nat → Int64) (sc : Nat) (avl : Int64) (gh gv : Int32) (sv : Nat → Int32) (sr : Nat → Nat) (st : Nat) (j : Int32) (hsc : sc ≤ 40) : Met l yX0_subsetAt wsX0_subsetAt ({ frames := 0, cells := 0, slots := 0, locals := 0 }) (va_Pc [.ref (ad 5), .int j] (fun U => va_P (dC, dI) vwCl [(ad 5, .inr (0, [.ref (ad 1), .ref (ad 6), .int (nI sc), .long avl, .int gh, .int gv, .ref (ad 7), .ref (ad 8), .int (nI st)])), (ad 6, .inl (cL, 40, .inr (.inl ss))), (ad 7, .inl (cI, 10, .inl sv)), (ad 8, .inl (cI, 10, .inl (xnI sr)))] U.heap ∧ va_K (dC, dI) vwCl [(cI, .int), (cL, .long), (cZ, .boolean)] U)) (va_Ql (fun r (_ : Unit) => f_subsetAt ss sc j = r) (fun _ _ => True) xN) 0 0 xN := by
  refine Met.ofW (cc := cX0_subsetAt) (maxL := 2) (ret := (some .long)) (by decide) rfl ?_
  intro p e s m args below meth c s₁ B hml hvv
  obtain ⟨rfl, hP0, hK⟩ := hvv
  have hx := B.exec
  have hb := B.bytes
  have hr := B.returns
  have hts := atoms_spec (ws := wsX0_subsetAt) B.pre
  have hown : s.vm.findClass RX0 = some m.cls := findClass_of_methodNamed B.named
  have hlocks := B.notSynchronized
  have hw0 : (.fieldLink RX0 26 "WeightedClauses$Bounds" "subsetCount" "I" : Cond).before _ s = true := hts _ (List.mem_cons_of_mem _ wd_100)
  have hw1 : (.fieldLink RX0 9 "WeightedClauses$Bounds" "subsets" "[J" : Cond).before _ s = true := hts _ (List.mem_cons_of_mem _ wd_99)
  have hPr : va_P (dC, dI) vwCl [(ad 5, .inr (0, [.ref (ad 1), .ref (ad 6), .int (nI sc), .long avl, .int gh, .int gv, .ref (ad 7), .ref (ad 8), .int (nI st)])), (ad 6, .inl (cL, 40, .inr (.inl ss))), (ad 7, .inl (cI, 10, .inl sv)), (ad 8, .inl (cI, 10, .inl (xnI sr)))] s.heap := hP0.sub [0, 1, 2, 3] rfl
  have hS : va_S xN s.heap s.heap [] := va_S.rf
  have hl := lv_entry [.ref (ad 5), .int j] (n := 2) (Nat.le_of_ble_eq_true rfl)
  rw [lg_entry_eq]
  generalize (lg_sl [.ref (ad 5), .int j] ++ List.replicate (2 - (lg_sl [.ref (ad 5), .int j]).length) Slot.unset).toArray = ls at hl ⊢
  have hl : lv_has ls 2 [(0, .ref (ad 5)), (1, .int j)] := hl
  have hF := Eq.refl (f_subsetAt ss sc j)
  conv at hF => rhs; unfold f_subsetAt
  refine lv_iload_n hx hb dX0_subsetAt_0 rfl (lv_at hl 1 rfl) ?_
  refine lv_if_lt (tgt := 21) hx hb dX0_subsetAt_1 (by decide) (fun h1 => ?_) (fun h1 => ?_)
  · have hF := hF.trans (if_pos h1)
    refine lv_lconst (v := 0) hx hb dX0_subsetAt_21 (by decide) ?_
    exact W.lret (v := 0) hx hb hr (fun t ht hW => ⟨⟨_, (), rfl, hF, trivial⟩, hS.F ht⟩) hS.2.2 dX0_subsetAt_22
  · have hF := hF.trans (if_neg h1)
    have hj1 := h1
    refine lv_iload_n hx hb dX0_subsetAt_4 rfl (lv_at hl 1 rfl) ?_
    refine lv_aload_n hx hb dX0_subsetAt_5 rfl (lv_at hl 0 rfl) ?_
    have hR := xP0 hPr xnN hS
    refine va_get (D := (dC, dI)) (ci := 0) (v := .int (nI sc)) (C := RX0) (T := TX0) (N := 9) hx hb hts (xcons inX0) hown hK hR 0 rfl rfl 2 (by decide) hw0 (fun _ h9 => h9) rfl dX0_subsetAt_6 ?_
    refine lv_icmp_ge (tgt := 21) hx hb dX0_subsetAt_9 (by decide) (fun h2 => ?_) (fun h2 => ?_)
    · have hF := hF.trans (if_pos h2)
      refine lv_lconst (v := 0) hx hb dX0_subsetAt_21 (by decide) ?_
      exact W.lret (v := 0) hx hb hr (fun t ht hW => ⟨⟨_, (), rfl, hF, trivial⟩, hS.F ht⟩) hS.2.2 dX0_subsetAt_22
    · have hF := hF.trans (if_neg h2)
      have hj2 := h2
      refine lv_aload_n hx hb dX0_subsetAt_12 rfl (lv_at hl 0 rfl) ?_
      refine va_get (D := (dC, dI)) (ci := 0) (v := .ref (ad 6)) (C := RX0) (T := TX0) (N := 9) hx hb hts (xcons inX0) hown hK hR 0 rfl rfl 1 (by decide) hw1 (fun _ h9 => h9) rfl dX0_subsetAt_13 ?_
      refine lv_iload_n hx hb dX0_subsetAt_16 rfl (lv_at hl 1 rfl) ?_
      refine va_lald hx hb hK hR 1 1 rfl rfl (xin hj1 hj2 hsc (by decide)) dX0_subsetAt_17 ?_
      refine lv_goto (tgt := 22) hx hb dX0_subsetAt_18 (by decide) ?_
      exact W.lret (v := (ss j.toNatClampNeg)) hx hb hr (fun t ht hW => ⟨⟨_, (), rfl, hF, trivial⟩, hS.F ht⟩) hS.2.2 dX0_subsetAt_22
