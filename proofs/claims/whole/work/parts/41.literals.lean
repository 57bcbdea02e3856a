def f_areLiterals (nv : Nat) (a1 a2 a3 a4 : Int32) : Int32 :=
  if (f_isLiteralOrAbsent nv a1) = 0 then
    0
  else
    if (f_isLiteralOrAbsent nv a2) = 0 then
      0
    else
      if (f_isLiteralOrAbsent nv a3) = 0 then
        0
      else
        if (f_isLiteralOrAbsent nv a4) = 0 then
          0
        else
          if ((((f_countIfPresent a1) + (f_countIfPresent a2)) + (f_countIfPresent a3)) + (f_countIfPresent a4)) ≤ 0 then
            0
          else
            if (f_bitCount ((((f_variableBit a1) ||| (f_variableBit a2)) ||| (f_variableBit a3)) ||| (f_variableBit a4))) = ((((f_countIfPresent a1) + (f_countIfPresent a2)) + (f_countIfPresent a3)) + (f_countIfPresent a4)) then
              1
            else
              0
set_option maxHeartbeats 4000000 in
set_option maxRecDepth 100000 in
theorem c_areLiterals (l : Launch) (dC : Nat → ClassId) (dI : Nat → Nat → Nat) (cI cL cZ : ClassId) (ad : Nat → Nat) (hinj : xI ad 15) (nv : Nat) (av : Int32) (nc : Nat) (mt mf wt : Nat → Int32) (a1 a2 a3 a4 : Int32) : Met l yX3_areLiterals wsX3_areLiterals ({ frames := 2, cells := 0, slots := 0, locals := 40 }) (va_Pc [.ref (ad 0), .int a1, .int a2, .int a3, .int a4] (fun U => va_P (dC, dI) vwCl [(ad 0, .inr (3, [.ref (ad 1), .ref (ad 5), .ref (ad 9)])), (ad 1, .inr (1, [.int (nI nv), .int av, .int (nI nc), .ref (ad 2), .ref (ad 3), .ref (ad 4)])), (ad 2, .inl (cI, 40, .inl mt)), (ad 3, .inl (cI, 40, .inl mf)), (ad 4, .inl (cI, 40, .inl wt))] U.heap ∧ va_K (dC, dI) vwCl [(cI, .int), (cL, .long), (cZ, .boolean)] U)) (va_Qi (fun r (_ : Unit) => f_areLiterals nv a1 a2 a3 a4 = r) (fun _ _ => True) xN) 0 0 xN := by
  refine Met.ofW (cc := cX3_areLiterals) (maxL := 7) (ret := (some .boolean)) (by decide) rfl ?_
  intro p e s m args below meth c s₁ B hml hvv
  obtain ⟨rfl, hP0, hK⟩ := hvv
  have hx := B.exec
  have hb := B.bytes
  have hr := B.returns
  have hts := atoms_spec (ws := wsX3_areLiterals) B.pre
  have hown : s.vm.findClass RX3 = some m.cls := findClass_of_methodNamed B.named
  have hlocks := B.notSynchronized
  have hPr : va_P (dC, dI) vwCl [(ad 0, .inr (3, [.ref (ad 1), .ref (ad 5), .ref (ad 9)])), (ad 1, .inr (1, [.int (nI nv), .int av, .int (nI nc), .ref (ad 2), .ref (ad 3), .ref (ad 4)])), (ad 2, .inl (cI, 40, .inl mt)), (ad 3, .inl (cI, 40, .inl mf)), (ad 4, .inl (cI, 40, .inl wt))] s.heap := hP0.sub [0, 1, 2, 3, 4] rfl
  have hS : va_S xN s.heap s.heap [] := va_S.rf
  have hl := lv_entry [.ref (ad 0), .int a1, .int a2, .int a3, .int a4] (n := 7) (Nat.le_of_ble_eq_true rfl)
  rw [lg_entry_eq]
  generalize (lg_sl [.ref (ad 0), .int a1, .int a2, .int a3, .int a4] ++ List.replicate (7 - (lg_sl [.ref (ad 0), .int a1, .int a2, .int a3, .int a4]).length) Slot.unset).toArray = ls at hl ⊢
  have hl : lv_has ls 7 [(0, .ref (ad 0)), (1, .int a1), (2, .int a2), (3, .int a3), (4, .int a4)] := hl
  have hF := Eq.refl (f_areLiterals nv a1 a2 a3 a4)
  conv at hF => rhs; unfold f_areLiterals
  refine lv_aload_n hx hb dX3_areLiterals_0 rfl (lv_at hl 0 rfl) ?_
  refine lv_iload_n hx hb dX3_areLiterals_1 rfl (lv_at hl 1 rfl) ?_
  have hR := xP0 hPr xnN hS
  refine xro_i (va_runV (As := [.int a1]) (rest := []) ⟨hx, hb, hml, hown, hts⟩ (c_isLiteralOrAbsent l dC dI cI cL cZ ad hinj nv av nc mt mf wt a1) (xcwV 1 hts wd_379 wd_34 wd_376 wd_378 wd_14 rfl rfl (by decide +kernel) ⟨Nat.le_of_ble_eq_true rfl, Nat.le_of_ble_eq_true rfl⟩) (xpreV (va_recv hK hR rfl (q0 := 0) rfl) hR hK) rfl rfl hl.1 rfl (lv_room (Nat.le_of_ble_eq_true rfl)) dX3_areLiterals_2 ⟨Nat.le_of_ble_eq_true rfl, Nat.le_of_ble_eq_true rfl⟩) hS (fun H locs hk hS => ?_)
  refine lv_if_eq (tgt := 33) hx hb dX3_areLiterals_5 (by decide) (fun h1 => ?_) (fun h1 => ?_)
  · have hF := hF.trans (if_pos h1)
    refine lv_iconst (v := 0) hx hb dX3_areLiterals_33 (by decide) ?_
    exact W.zret (v := 0) hx hb hr rfl (fun t ht hW => ⟨⟨_, (), rfl, hF, trivial⟩, hS.F ht⟩) hS.2.2 dX3_areLiterals_34
  · have hF := hF.trans (if_neg h1)
    refine lv_aload_n hx hb dX3_areLiterals_8 rfl (lv_at hl 0 rfl) ?_
    refine lv_iload_n hx hb dX3_areLiterals_9 rfl (lv_at hl 2 rfl) ?_
    have hR := xP0 hPr xnN hS
    refine xro_i (va_runV (As := [.int a2]) (rest := []) ⟨hx, hb, hml, hown, hts⟩ (c_isLiteralOrAbsent l dC dI cI cL cZ ad hinj nv av nc mt mf wt a2) (xcwV 1 hts wd_379 wd_34 wd_376 wd_378 wd_14 rfl rfl (by decide +kernel) ⟨Nat.le_of_ble_eq_true rfl, Nat.le_of_ble_eq_true rfl⟩) (xpreV (va_recv hK hR rfl (q0 := 0) rfl) hR hK) rfl rfl hl.1 rfl (lv_room (Nat.le_of_ble_eq_true rfl)) dX3_areLiterals_10 ⟨Nat.le_of_ble_eq_true rfl, Nat.le_of_ble_eq_true rfl⟩) hS (fun H locs hk hS => ?_)
    refine lv_if_eq (tgt := 33) hx hb dX3_areLiterals_13 (by decide) (fun h2 => ?_) (fun h2 => ?_)
    · have hF := hF.trans (if_pos h2)
      refine lv_iconst (v := 0) hx hb dX3_areLiterals_33 (by decide) ?_
      exact W.zret (v := 0) hx hb hr rfl (fun t ht hW => ⟨⟨_, (), rfl, hF, trivial⟩, hS.F ht⟩) hS.2.2 dX3_areLiterals_34
    · have hF := hF.trans (if_neg h2)
      refine lv_aload_n hx hb dX3_areLiterals_16 rfl (lv_at hl 0 rfl) ?_
      refine lv_iload_n hx hb dX3_areLiterals_17 rfl (lv_at hl 3 rfl) ?_
      have hR := xP0 hPr xnN hS
      refine xro_i (va_runV (As := [.int a3]) (rest := []) ⟨hx, hb, hml, hown, hts⟩ (c_isLiteralOrAbsent l dC dI cI cL cZ ad hinj nv av nc mt mf wt a3) (xcwV 1 hts wd_379 wd_34 wd_376 wd_378 wd_14 rfl rfl (by decide +kernel) ⟨Nat.le_of_ble_eq_true rfl, Nat.le_of_ble_eq_true rfl⟩) (xpreV (va_recv hK hR rfl (q0 := 0) rfl) hR hK) rfl rfl hl.1 rfl (lv_room (Nat.le_of_ble_eq_true rfl)) dX3_areLiterals_18 ⟨Nat.le_of_ble_eq_true rfl, Nat.le_of_ble_eq_true rfl⟩) hS (fun H locs hk hS => ?_)
      refine lv_if_eq (tgt := 33) hx hb dX3_areLiterals_21 (by decide) (fun h3 => ?_) (fun h3 => ?_)
      · have hF := hF.trans (if_pos h3)
        refine lv_iconst (v := 0) hx hb dX3_areLiterals_33 (by decide) ?_
        exact W.zret (v := 0) hx hb hr rfl (fun t ht hW => ⟨⟨_, (), rfl, hF, trivial⟩, hS.F ht⟩) hS.2.2 dX3_areLiterals_34
      · have hF := hF.trans (if_neg h3)
        refine lv_aload_n hx hb dX3_areLiterals_24 rfl (lv_at hl 0 rfl) ?_
        refine lv_iload hx hb dX3_areLiterals_25 (lv_at hl 4 rfl) ?_
        have hR := xP0 hPr xnN hS
        refine xro_i (va_runV (As := [.int a4]) (rest := []) ⟨hx, hb, hml, hown, hts⟩ (c_isLiteralOrAbsent l dC dI cI cL cZ ad hinj nv av nc mt mf wt a4) (xcwV 1 hts wd_379 wd_34 wd_376 wd_378 wd_14 rfl rfl (by decide +kernel) ⟨Nat.le_of_ble_eq_true rfl, Nat.le_of_ble_eq_true rfl⟩) (xpreV (va_recv hK hR rfl (q0 := 0) rfl) hR hK) rfl rfl hl.1 rfl (lv_room (Nat.le_of_ble_eq_true rfl)) dX3_areLiterals_27 ⟨Nat.le_of_ble_eq_true rfl, Nat.le_of_ble_eq_true rfl⟩) hS (fun H locs hk hS => ?_)
        refine lv_if_ne (tgt := 35) hx hb dX3_areLiterals_30 (by decide) (fun h4 => ?_) (fun h4 => ?_)
        · have hF := hF.trans (if_neg h4)
          refine lv_iload_n hx hb dX3_areLiterals_35 rfl (lv_at hl 1 rfl) ?_
          have hR := xP0 hPr xnN hS
          refine xro_i (va_runS (As := [.int a1]) (rest := []) ⟨hx, hb, hml, hown, hts⟩ (c_countIfPresent l dC dI cI cL cZ ad hinj a1) (xcwS 1 hts wd_382 wd_34 wd_380 wd_381 rfl rfl (by decide +kernel) ⟨Nat.le_of_ble_eq_true rfl, Nat.le_of_ble_eq_true rfl⟩) (xpreS xPn hK) rfl rfl hl.1 rfl (lv_room (Nat.le_of_ble_eq_true rfl)) dX3_areLiterals_36 ⟨Nat.le_of_ble_eq_true rfl, Nat.le_of_ble_eq_true rfl⟩) hS (fun H locs hk hS => ?_)
          refine lv_iload_n hx hb dX3_areLiterals_39 rfl (lv_at hl 2 rfl) ?_
          have hR := xP0 hPr xnN hS
          refine xro_i (va_runS (As := [.int a2]) (rest := [.int (f_countIfPresent a1)]) ⟨hx, hb, hml, hown, hts⟩ (c_countIfPresent l dC dI cI cL cZ ad hinj a2) (xcwS 1 hts wd_382 wd_34 wd_380 wd_381 rfl rfl (by decide +kernel) ⟨Nat.le_of_ble_eq_true rfl, Nat.le_of_ble_eq_true rfl⟩) (xpreS xPn hK) rfl rfl hl.1 rfl (lv_room (Nat.le_of_ble_eq_true rfl)) dX3_areLiterals_40 ⟨Nat.le_of_ble_eq_true rfl, Nat.le_of_ble_eq_true rfl⟩) hS (fun H locs hk hS => ?_)
          refine lv_iadd hx hb dX3_areLiterals_43 ?_
          refine lv_iload_n hx hb dX3_areLiterals_44 rfl (lv_at hl 3 rfl) ?_
          have hR := xP0 hPr xnN hS
          refine xro_i (va_runS (As := [.int a3]) (rest := [.int ((f_countIfPresent a1) + (f_countIfPresent a2))]) ⟨hx, hb, hml, hown, hts⟩ (c_countIfPresent l dC dI cI cL cZ ad hinj a3) (xcwS 1 hts wd_382 wd_34 wd_380 wd_381 rfl rfl (by decide +kernel) ⟨Nat.le_of_ble_eq_true rfl, Nat.le_of_ble_eq_true rfl⟩) (xpreS xPn hK) rfl rfl hl.1 rfl (lv_room (Nat.le_of_ble_eq_true rfl)) dX3_areLiterals_45 ⟨Nat.le_of_ble_eq_true rfl, Nat.le_of_ble_eq_true rfl⟩) hS (fun H locs hk hS => ?_)
          refine lv_iadd hx hb dX3_areLiterals_48 ?_
          refine lv_iload hx hb dX3_areLiterals_49 (lv_at hl 4 rfl) ?_
          have hR := xP0 hPr xnN hS
          refine xro_i (va_runS (As := [.int a4]) (rest := [.int (((f_countIfPresent a1) + (f_countIfPresent a2)) + (f_countIfPresent a3))]) ⟨hx, hb, hml, hown, hts⟩ (c_countIfPresent l dC dI cI cL cZ ad hinj a4) (xcwS 1 hts wd_382 wd_34 wd_380 wd_381 rfl rfl (by decide +kernel) ⟨Nat.le_of_ble_eq_true rfl, Nat.le_of_ble_eq_true rfl⟩) (xpreS xPn hK) rfl rfl hl.1 rfl (lv_room (Nat.le_of_ble_eq_true rfl)) dX3_areLiterals_51 ⟨Nat.le_of_ble_eq_true rfl, Nat.le_of_ble_eq_true rfl⟩) hS (fun H locs hk hS => ?_)
          refine lv_iadd hx hb dX3_areLiterals_54 ?_
          refine lv_istore (lv' := [(5, .int ((((f_countIfPresent a1) + (f_countIfPresent a2)) + (f_countIfPresent a3)) + (f_countIfPresent a4))), (0, .ref (ad 0)), (1, .int a1), (2, .int a2), (3, .int a3), (4, .int a4)]) hx hb dX3_areLiterals_55 hl (by decide) rfl (fun ls hl => ?_)
          refine lv_iload_n hx hb dX3_areLiterals_57 rfl (lv_at hl 2 rfl) ?_
          have hR := xP0 hPr xnN hS
          refine xro_i (va_runS (As := [.int a1]) (rest := []) ⟨hx, hb, hml, hown, hts⟩ (c_variableBit l dC dI cI cL cZ ad hinj a1) (xcwS 1 hts wd_385 wd_34 wd_383 wd_384 rfl rfl (by decide +kernel) ⟨Nat.le_of_ble_eq_true rfl, Nat.le_of_ble_eq_true rfl⟩) (xpreS xPn hK) rfl rfl hl.1 rfl (lv_room (Nat.le_of_ble_eq_true rfl)) dX3_areLiterals_58 ⟨Nat.le_of_ble_eq_true rfl, Nat.le_of_ble_eq_true rfl⟩) hS (fun H locs hk hS => ?_)
          refine lv_iload_n hx hb dX3_areLiterals_61 rfl (lv_at hl 3 rfl) ?_
          have hR := xP0 hPr xnN hS
          refine xro_i (va_runS (As := [.int a2]) (rest := [.int (f_variableBit a1)]) ⟨hx, hb, hml, hown, hts⟩ (c_variableBit l dC dI cI cL cZ ad hinj a2) (xcwS 1 hts wd_385 wd_34 wd_383 wd_384 rfl rfl (by decide +kernel) ⟨Nat.le_of_ble_eq_true rfl, Nat.le_of_ble_eq_true rfl⟩) (xpreS xPn hK) rfl rfl hl.1 rfl (lv_room (Nat.le_of_ble_eq_true rfl)) dX3_areLiterals_62 ⟨Nat.le_of_ble_eq_true rfl, Nat.le_of_ble_eq_true rfl⟩) hS (fun H locs hk hS => ?_)
          refine lv_ior hx hb dX3_areLiterals_65 ?_
          refine lv_iload_n hx hb dX3_areLiterals_66 rfl (lv_at hl 4 rfl) ?_
          have hR := xP0 hPr xnN hS
          refine xro_i (va_runS (As := [.int a3]) (rest := [.int ((f_variableBit a1) ||| (f_variableBit a2))]) ⟨hx, hb, hml, hown, hts⟩ (c_variableBit l dC dI cI cL cZ ad hinj a3) (xcwS 1 hts wd_385 wd_34 wd_383 wd_384 rfl rfl (by decide +kernel) ⟨Nat.le_of_ble_eq_true rfl, Nat.le_of_ble_eq_true rfl⟩) (xpreS xPn hK) rfl rfl hl.1 rfl (lv_room (Nat.le_of_ble_eq_true rfl)) dX3_areLiterals_67 ⟨Nat.le_of_ble_eq_true rfl, Nat.le_of_ble_eq_true rfl⟩) hS (fun H locs hk hS => ?_)
          refine lv_ior hx hb dX3_areLiterals_70 ?_
          refine lv_iload hx hb dX3_areLiterals_71 (lv_at hl 5 rfl) ?_
          have hR := xP0 hPr xnN hS
          refine xro_i (va_runS (As := [.int a4]) (rest := [.int (((f_variableBit a1) ||| (f_variableBit a2)) ||| (f_variableBit a3))]) ⟨hx, hb, hml, hown, hts⟩ (c_variableBit l dC dI cI cL cZ ad hinj a4) (xcwS 1 hts wd_385 wd_34 wd_383 wd_384 rfl rfl (by decide +kernel) ⟨Nat.le_of_ble_eq_true rfl, Nat.le_of_ble_eq_true rfl⟩) (xpreS xPn hK) rfl rfl hl.1 rfl (lv_room (Nat.le_of_ble_eq_true rfl)) dX3_areLiterals_73 ⟨Nat.le_of_ble_eq_true rfl, Nat.le_of_ble_eq_true rfl⟩) hS (fun H locs hk hS => ?_)
          refine lv_ior hx hb dX3_areLiterals_76 ?_
          refine lv_istore (lv' := [(6, .int ((((f_variableBit a1) ||| (f_variableBit a2)) ||| (f_variableBit a3)) ||| (f_variableBit a4))), (5, .int ((((f_countIfPresent a1) + (f_countIfPresent a2)) + (f_countIfPresent a3)) + (f_countIfPresent a4))), (0, .ref (ad 0)), (1, .int a1), (2, .int a2), (3, .int a3), (4, .int a4)]) hx hb dX3_areLiterals_77 hl (by decide) rfl (fun ls hl => ?_)
          refine lv_iload hx hb dX3_areLiterals_79 (lv_at hl 1 rfl) ?_
          refine lv_if_le (tgt := 98) hx hb dX3_areLiterals_81 (by decide) (fun h5 => ?_) (fun h5 => ?_)
          · have hF := hF.trans (if_pos h5)
            refine lv_iconst (v := 0) hx hb dX3_areLiterals_98 (by decide) ?_
            exact W.zret (v := 0) hx hb hr rfl (fun t ht hW => ⟨⟨_, (), rfl, hF, trivial⟩, hS.F ht⟩) hS.2.2 dX3_areLiterals_99
          · have hF := hF.trans (if_neg h5)
            refine lv_iload hx hb dX3_areLiterals_84 (lv_at hl 0 rfl) ?_
            have hR := xP0 hPr xnN hS
            refine xro_i (va_runS (As := [.int ((((f_variableBit a1) ||| (f_variableBit a2)) ||| (f_variableBit a3)) ||| (f_variableBit a4))]) (rest := []) ⟨hx, hb, hml, hown, hts⟩ (c_bitCount l dC dI cI cL cZ ad hinj ((((f_variableBit a1) ||| (f_variableBit a2)) ||| (f_variableBit a3)) ||| (f_variableBit a4))) (xcwS 1 hts wd_290 wd_40 wd_392 wd_289 rfl rfl (by decide +kernel) ⟨Nat.le_of_ble_eq_true rfl, Nat.le_of_ble_eq_true rfl⟩) (xpreS xPn hK) rfl rfl hl.1 rfl (lv_room (Nat.le_of_ble_eq_true rfl)) dX3_areLiterals_86 ⟨Nat.le_of_ble_eq_true rfl, Nat.le_of_ble_eq_true rfl⟩) hS (fun H locs hk hS => ?_)
            refine lv_iload hx hb dX3_areLiterals_89 (lv_at hl 1 rfl) ?_
            refine lv_icmp_ne (tgt := 98) hx hb dX3_areLiterals_91 (by decide) (fun h6 => ?_) (fun h6 => ?_)
            · have hF := hF.trans (if_neg h6)
              refine lv_iconst (v := 0) hx hb dX3_areLiterals_98 (by decide) ?_
              exact W.zret (v := 0) hx hb hr rfl (fun t ht hW => ⟨⟨_, (), rfl, hF, trivial⟩, hS.F ht⟩) hS.2.2 dX3_areLiterals_99
            · have hF := hF.trans (if_pos h6)
              refine lv_iconst (v := 1) hx hb dX3_areLiterals_94 (by decide) ?_
              refine lv_goto (tgt := 99) hx hb dX3_areLiterals_95 (by decide) ?_
              exact W.zret (v := 1) hx hb hr rfl (fun t ht hW => ⟨⟨_, (), rfl, hF, trivial⟩, hS.F ht⟩) hS.2.2 dX3_areLiterals_99
        · have hF := hF.trans (if_pos h4)
          refine lv_iconst (v := 0) hx hb dX3_areLiterals_33 (by decide) ?_
          exact W.zret (v := 0) hx hb hr rfl (fun t ht hW => ⟨⟨_, (), rfl, hF, trivial⟩, hS.F ht⟩) hS.2.2 dX3_areLiterals_34
