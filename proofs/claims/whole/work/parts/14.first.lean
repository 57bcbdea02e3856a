def f_firstLiteral_L (nc : Nat) (mt mf : Nat → Int32) (hv : Int32) (op : Int64) : Nat → Nat → Int32 → Int32 → Int32
  | 0, i, lt, mo =>
    lt
  | n + 1, i, lt, mo =>
    if ((hv >>> ((nI i) &&& 31)) &&& 1) = 0 then
      if ((f_countHolding nc mt i op) + (f_countHolding nc mf i op)) ≤ mo then
        f_firstLiteral_L nc mt mf hv op n (i + 1) lt mo
      else
        if (f_countHolding nc mf i op) ≤ (f_countHolding nc mt i op) then
          f_firstLiteral_L nc mt mf hv op n (i + 1) (2 * (nI i)) ((f_countHolding nc mt i op) + (f_countHolding nc mf i op))
        else
          f_firstLiteral_L nc mt mf hv op n (i + 1) ((2 * (nI i)) + 1) ((f_countHolding nc mt i op) + (f_countHolding nc mf i op))
    else
      f_firstLiteral_L nc mt mf hv op n (i + 1) lt mo
def f_firstLiteral (nv nc : Nat) (mt mf : Nat → Int32) (hv vl : Int32) : Int32 :=
  f_firstLiteral_L nc mt mf hv (f_openClauses nc mt mf hv vl) nv 0 (-1) (-1)
set_option maxHeartbeats 4000000 in
set_option maxRecDepth 100000 in
theorem c_firstLiteral (l : Launch) (dC : Nat → ClassId) (dI : Nat → Nat → Nat) (cI cL cZ : ClassId) (ad : Nat → Nat) (hinj : xI ad 15) (nv : Nat) (av : Int32) (nc : Nat) (mt mf wt : Nat → Int32) (hnc : nc ≤ 40) (hnv : nv ≤ 10) (hv vl : Int32) : Met l yX1_firstLiteral wsX1_firstLiteral ({ frames := 2, cells := 0, slots := 0, locals := 48 }) (va_Pc [.ref (ad 1), .int hv, .int vl] (fun U => va_P (dC, dI) vwCl [(ad 1, .inr (1, [.int (nI nv), .int av, .int (nI nc), .ref (ad 2), .ref (ad 3), .ref (ad 4)])), (ad 2, .inl (cI, 40, .inl mt)), (ad 3, .inl (cI, 40, .inl mf)), (ad 4, .inl (cI, 40, .inl wt))] U.heap ∧ va_K (dC, dI) vwCl [(cI, .int), (cL, .long), (cZ, .boolean)] U)) (va_Qi (fun r (_ : Unit) => f_firstLiteral nv nc mt mf hv vl = r) (fun _ _ => True) xN) 0 0 xN := by
  refine Met.ofW (cc := cX1_firstLiteral) (maxL := 10) (ret := (some .int)) (by decide) rfl ?_
  intro p e s m args below meth c s₁ B hml hvv
  obtain ⟨rfl, hP0, hK⟩ := hvv
  have hx := B.exec
  have hb := B.bytes
  have hr := B.returns
  have hts := atoms_spec (ws := wsX1_firstLiteral) B.pre
  have hown : s.vm.findClass RX1 = some m.cls := findClass_of_methodNamed B.named
  have hlocks := B.notSynchronized
  have hw0 : (.fieldLink RX1 21 "WeightedClauses$Formula" "variableCount" "I" : Cond).before _ s = true := hts _ (List.mem_cons_of_mem _ wd_66)
  have hw1 : (.fieldLink RX1 9 "WeightedClauses$Formula" "makesTrue" "[I" : Cond).before _ s = true := hts _ (List.mem_cons_of_mem _ wd_75)
  have hw2 : (.fieldLink RX1 15 "WeightedClauses$Formula" "makesFalse" "[I" : Cond).before _ s = true := hts _ (List.mem_cons_of_mem _ wd_76)
  have hPr : va_P (dC, dI) vwCl [(ad 1, .inr (1, [.int (nI nv), .int av, .int (nI nc), .ref (ad 2), .ref (ad 3), .ref (ad 4)])), (ad 2, .inl (cI, 40, .inl mt)), (ad 3, .inl (cI, 40, .inl mf)), (ad 4, .inl (cI, 40, .inl wt))] s.heap := hP0.sub [0, 1, 2, 3] rfl
  have hS : va_S xN s.heap s.heap [] := va_S.rf
  have hl := lv_entry [.ref (ad 1), .int hv, .int vl] (n := 10) (Nat.le_of_ble_eq_true rfl)
  rw [lg_entry_eq]
  generalize (lg_sl [.ref (ad 1), .int hv, .int vl] ++ List.replicate (10 - (lg_sl [.ref (ad 1), .int hv, .int vl]).length) Slot.unset).toArray = ls at hl ⊢
  have hl : lv_has ls 10 [(0, .ref (ad 1)), (1, .int hv), (2, .int vl)] := hl
  have hF := Eq.refl (f_firstLiteral nv nc mt mf hv vl)
  conv at hF => rhs; unfold f_firstLiteral
  refine lv_aload_n hx hb dX1_firstLiteral_0 rfl (lv_at hl 0 rfl) ?_
  refine lv_iload_n hx hb dX1_firstLiteral_1 rfl (lv_at hl 1 rfl) ?_
  refine lv_iload_n hx hb dX1_firstLiteral_2 rfl (lv_at hl 2 rfl) ?_
  have hR := xP0 hPr xnN hS
  refine xro_l (va_runV (As := [.int hv, .int vl]) (rest := []) ⟨hx, hb, hml, hown, hts⟩ (c_openClauses l dC dI cI cL cZ ad hinj nv av nc mt mf wt (by omega) hv vl) (xcwV 2 hts wd_253 wd_35 wd_324 wd_251 wd_252 rfl rfl (by decide +kernel) ⟨Nat.le_of_ble_eq_true rfl, Nat.le_of_ble_eq_true rfl⟩) (xpreV (va_recv hK hR rfl (q0 := 0) rfl) hR hK) rfl rfl hl.1 rfl (lv_room (Nat.le_of_ble_eq_true rfl)) dX1_firstLiteral_3 ⟨Nat.le_of_ble_eq_true rfl, Nat.le_of_ble_eq_true rfl⟩) hS (fun H locs hk hS => ?_)
  refine lv_lstore_n (lv' := [(3, .long (f_openClauses nc mt mf hv vl)), (0, .ref (ad 1)), (1, .int hv), (2, .int vl)]) hx hb dX1_firstLiteral_6 rfl hl (by decide) rfl (fun ls hl => ?_)
  refine lv_iconst (v := (-1)) hx hb dX1_firstLiteral_7 (by decide) ?_
  refine lv_istore (lv' := [(5, .int (-1)), (3, .long (f_openClauses nc mt mf hv vl)), (0, .ref (ad 1)), (1, .int hv), (2, .int vl)]) hx hb dX1_firstLiteral_8 hl (by decide) rfl (fun ls hl => ?_)
  refine lv_iconst (v := (-1)) hx hb dX1_firstLiteral_10 (by decide) ?_
  refine lv_istore (lv' := [(6, .int (-1)), (5, .int (-1)), (3, .long (f_openClauses nc mt mf hv vl)), (0, .ref (ad 1)), (1, .int hv), (2, .int vl)]) hx hb dX1_firstLiteral_11 hl (by decide) rfl (fun ls hl => ?_)
  refine lv_iconst (v := 0) hx hb dX1_firstLiteral_13 (by decide) ?_
  refine lv_istore (lv' := [(7, .int 0), (6, .int (-1)), (5, .int (-1)), (3, .long (f_openClauses nc mt mf hv vl)), (0, .ref (ad 1)), (1, .int hv), (2, .int vl)]) hx hb dX1_firstLiteral_14 hl (by decide) rfl (fun ls hl => ?_)
  have lp16 : ∀ (n : Nat) (i : Nat) (lt : Int32) (mo : Int32) (H : Heap) (locs : List Loc) (ls : Array Slot), f_firstLiteral nv nc mt mf hv vl = f_firstLiteral_L nc mt mf hv (f_openClauses nc mt mf hv vl) n i lt mo → i + n = nv → va_S xN s.heap H locs → lv_has ls 10 [(0, .ref (ad 1)), (1, .int hv), (3, .long (f_openClauses nc mt mf hv vl)), (5, .int lt), (6, .int mo), (7, .int (nI i))] → W p l e (headSpec wsX1_firstLiteral ({ frames := 2, cells := 0, slots := 0, locals := 48 })).room s m [.ref (ad 1), .int hv, .int vl].toArray below meth c H locs 0 0 (MQ below (va_Qi (fun r (_ : Unit) => f_firstLiteral nv nc mt mf hv vl = r) (fun _ _ => True) xN) [.ref (ad 1), .int hv, .int vl].toArray s 0 0 xN) (F0 m 16 ls []) := by
    intro n
    induction n with
    | zero =>
      intro i lt mo H locs ls hF hil hS hl
      rw [f_firstLiteral_L] at hF
      refine lv_iload hx hb dX1_firstLiteral_16 (lv_at hl 5 rfl) ?_
      refine lv_aload_n hx hb dX1_firstLiteral_18 rfl (lv_at hl 0 rfl) ?_
      have hR := xP0 hPr xnN hS
      refine va_get (D := (dC, dI)) (ci := 1) (v := .int (nI nv)) (C := RX1) (T := TX1) (N := 6) hx hb hts (xcons inX1) hown hK hR 0 rfl rfl 0 (by decide) hw0 (fun _ h9 => h9) rfl dX1_firstLiteral_19 ?_
      refine lv_icmp_ge (tgt := 105) hx hb dX1_firstLiteral_22 (by decide) (fun h1 => ?_) (fun h1 => absurd (nI_le (by omega) (by omega)) h1)
      refine lv_iload hx hb dX1_firstLiteral_105 (lv_at hl 3 rfl) ?_
      exact W.iret (v := lt) hx hb hr (fun t ht hW => ⟨⟨_, (), rfl, hF, trivial⟩, hS.F ht⟩) hS.2.2 dX1_firstLiteral_107
    | succ n ih =>
      intro i lt mo H locs ls hF hil hS hl
      rw [f_firstLiteral_L] at hF
      refine lv_iload hx hb dX1_firstLiteral_16 (lv_at hl 5 rfl) ?_
      refine lv_aload_n hx hb dX1_firstLiteral_18 rfl (lv_at hl 0 rfl) ?_
      have hR := xP0 hPr xnN hS
      refine va_get (D := (dC, dI)) (ci := 1) (v := .int (nI nv)) (C := RX1) (T := TX1) (N := 6) hx hb hts (xcons inX1) hown hK hR 0 rfl rfl 0 (by decide) hw0 (fun _ h9 => h9) rfl dX1_firstLiteral_19 ?_
      refine lv_icmp_ge (tgt := 105) hx hb dX1_firstLiteral_22 (by decide) (fun h2 => absurd h2 (nI_ge (by omega) (by omega))) (fun h2 => ?_)
      refine lv_aload_n hx hb dX1_firstLiteral_25 rfl (lv_at hl 0 rfl) ?_
      refine lv_aload_n hx hb dX1_firstLiteral_26 rfl (lv_at hl 0 rfl) ?_
      refine va_get (D := (dC, dI)) (ci := 1) (v := .ref (ad 2)) (C := RX1) (T := TX1) (N := 6) hx hb hts (xcons inX1) hown hK hR 0 rfl rfl 3 (by decide) hw1 (fun _ h9 => h9) rfl dX1_firstLiteral_27 ?_
      refine lv_iload hx hb dX1_firstLiteral_30 (lv_at hl 5 rfl) ?_
      refine lv_lload_n hx hb dX1_firstLiteral_32 rfl (lv_at hl 2 rfl) ?_
      refine xro_i (va_runV (As := [.ref (ad 2), .int (nI i), .long (f_openClauses nc mt mf hv vl)]) (rest := []) ⟨hx, hb, hml, hown, hts⟩ (c_countHoldingT l dC dI cI cL cZ ad hinj nv av nc mt mf wt (by omega) i (f_openClauses nc mt mf hv vl)) (xcwV 3 hts wd_328 wd_35 wd_325 wd_327 wd_12 rfl rfl (by decide +kernel) ⟨Nat.le_of_ble_eq_true rfl, Nat.le_of_ble_eq_true rfl⟩) (xpreV (va_recv hK hR rfl (q0 := 0) rfl) hR hK) rfl rfl hl.1 rfl (lv_room (Nat.le_of_ble_eq_true rfl)) dX1_firstLiteral_33 ⟨Nat.le_of_ble_eq_true rfl, Nat.le_of_ble_eq_true rfl⟩) hS (fun H locs hk hS => ?_)
      refine lv_istore (lv' := [(8, .int (f_countHolding nc mt i (f_openClauses nc mt mf hv vl))), (0, .ref (ad 1)), (1, .int hv), (3, .long (f_openClauses nc mt mf hv vl)), (5, .int lt), (6, .int mo), (7, .int (nI i))]) hx hb dX1_firstLiteral_36 hl (by decide) rfl (fun ls hl => ?_)
      refine lv_aload_n hx hb dX1_firstLiteral_38 rfl (lv_at hl 1 rfl) ?_
      refine lv_aload_n hx hb dX1_firstLiteral_39 rfl (lv_at hl 1 rfl) ?_
      have hR := xP0 hPr xnN hS
      refine va_get (D := (dC, dI)) (ci := 1) (v := .ref (ad 3)) (C := RX1) (T := TX1) (N := 6) hx hb hts (xcons inX1) hown hK hR 0 rfl rfl 4 (by decide) hw2 (fun _ h9 => h9) rfl dX1_firstLiteral_40 ?_
      refine lv_iload hx hb dX1_firstLiteral_43 (lv_at hl 6 rfl) ?_
      refine lv_lload_n hx hb dX1_firstLiteral_45 rfl (lv_at hl 3 rfl) ?_
      refine xro_i (va_runV (As := [.ref (ad 3), .int (nI i), .long (f_openClauses nc mt mf hv vl)]) (rest := []) ⟨hx, hb, hml, hown, hts⟩ (c_countHoldingF l dC dI cI cL cZ ad hinj nv av nc mt mf wt (by omega) i (f_openClauses nc mt mf hv vl)) (xcwV 3 hts wd_328 wd_35 wd_325 wd_327 wd_12 rfl rfl (by decide +kernel) ⟨Nat.le_of_ble_eq_true rfl, Nat.le_of_ble_eq_true rfl⟩) (xpreV (va_recv hK hR rfl (q0 := 0) rfl) hR hK) rfl rfl hl.1 rfl (lv_room (Nat.le_of_ble_eq_true rfl)) dX1_firstLiteral_46 ⟨Nat.le_of_ble_eq_true rfl, Nat.le_of_ble_eq_true rfl⟩) hS (fun H locs hk hS => ?_)
      refine lv_istore (lv' := [(9, .int (f_countHolding nc mf i (f_openClauses nc mt mf hv vl))), (8, .int (f_countHolding nc mt i (f_openClauses nc mt mf hv vl))), (0, .ref (ad 1)), (1, .int hv), (3, .long (f_openClauses nc mt mf hv vl)), (5, .int lt), (6, .int mo), (7, .int (nI i))]) hx hb dX1_firstLiteral_49 hl (by decide) rfl (fun ls hl => ?_)
      refine lv_iload_n hx hb dX1_firstLiteral_51 rfl (lv_at hl 3 rfl) ?_
      refine lv_iload hx hb dX1_firstLiteral_52 (lv_at hl 7 rfl) ?_
      refine lv_ishr hx hb dX1_firstLiteral_54 ?_
      refine lv_iconst (v := 1) hx hb dX1_firstLiteral_55 (by decide) ?_
      refine lv_iand hx hb dX1_firstLiteral_56 ?_
      refine lv_if_ne (tgt := 99) hx hb dX1_firstLiteral_57 (by decide) (fun h3 => ?_) (fun h3 => ?_)
      · have hF := hF.trans (if_neg h3)
        refine lv_iinc (k := 7) (v := (nI (i + 1))) (lv' := [(7, .int (nI (i + 1))), (9, .int (f_countHolding nc mf i (f_openClauses nc mt mf hv vl))), (8, .int (f_countHolding nc mt i (f_openClauses nc mt mf hv vl))), (0, .ref (ad 1)), (1, .int hv), (3, .long (f_openClauses nc mt mf hv vl)), (5, .int lt), (6, .int mo)]) hx hb dX1_firstLiteral_99 hl rfl (xinc _) (by decide) rfl (fun ls hl => ?_)
        refine lv_goto (tgt := 16) hx hb dX1_firstLiteral_102 (by decide) ?_
        exact ih (i + 1) lt mo _ _ _ hF (by omega) hS (lv_sub hl [3, 4, 5, 6, 7, 0] rfl)
      · have hF := hF.trans (if_pos h3)
        refine lv_iload hx hb dX1_firstLiteral_60 (lv_at hl 1 rfl) ?_
        refine lv_iload hx hb dX1_firstLiteral_62 (lv_at hl 0 rfl) ?_
        refine lv_iadd hx hb dX1_firstLiteral_64 ?_
        refine lv_iload hx hb dX1_firstLiteral_65 (lv_at hl 6 rfl) ?_
        refine lv_icmp_le (tgt := 99) hx hb dX1_firstLiteral_67 (by decide) (fun h4 => ?_) (fun h4 => ?_)
        · have hF := hF.trans (if_pos h4)
          refine lv_iinc (k := 7) (v := (nI (i + 1))) (lv' := [(7, .int (nI (i + 1))), (9, .int (f_countHolding nc mf i (f_openClauses nc mt mf hv vl))), (8, .int (f_countHolding nc mt i (f_openClauses nc mt mf hv vl))), (0, .ref (ad 1)), (1, .int hv), (3, .long (f_openClauses nc mt mf hv vl)), (5, .int lt), (6, .int mo)]) hx hb dX1_firstLiteral_99 hl rfl (xinc _) (by decide) rfl (fun ls hl => ?_)
          refine lv_goto (tgt := 16) hx hb dX1_firstLiteral_102 (by decide) ?_
          exact ih (i + 1) lt mo _ _ _ hF (by omega) hS (lv_sub hl [3, 4, 5, 6, 7, 0] rfl)
        · have hF := hF.trans (if_neg h4)
          refine lv_iload hx hb dX1_firstLiteral_70 (lv_at hl 1 rfl) ?_
          refine lv_iload hx hb dX1_firstLiteral_72 (lv_at hl 0 rfl) ?_
          refine lv_iadd hx hb dX1_firstLiteral_74 ?_
          refine lv_istore (lv' := [(6, .int ((f_countHolding nc mt i (f_openClauses nc mt mf hv vl)) + (f_countHolding nc mf i (f_openClauses nc mt mf hv vl)))), (9, .int (f_countHolding nc mf i (f_openClauses nc mt mf hv vl))), (8, .int (f_countHolding nc mt i (f_openClauses nc mt mf hv vl))), (0, .ref (ad 1)), (1, .int hv), (3, .long (f_openClauses nc mt mf hv vl)), (5, .int lt), (7, .int (nI i))]) hx hb dX1_firstLiteral_75 hl (by decide) rfl (fun ls hl => ?_)
          refine lv_iload hx hb dX1_firstLiteral_77 (lv_at hl 1 rfl) ?_
          refine lv_iload hx hb dX1_firstLiteral_79 (lv_at hl 2 rfl) ?_
          refine lv_icmp_le (tgt := 93) hx hb dX1_firstLiteral_81 (by decide) (fun h5 => ?_) (fun h5 => ?_)
          · have hF := hF.trans (if_pos h5)
            refine lv_iconst (v := 2) hx hb dX1_firstLiteral_93 (by decide) ?_
            refine lv_iload hx hb dX1_firstLiteral_94 (lv_at hl 7 rfl) ?_
            refine lv_imul hx hb dX1_firstLiteral_96 ?_
            refine lv_istore (lv' := [(5, .int (2 * (nI i))), (6, .int ((f_countHolding nc mt i (f_openClauses nc mt mf hv vl)) + (f_countHolding nc mf i (f_openClauses nc mt mf hv vl)))), (9, .int (f_countHolding nc mf i (f_openClauses nc mt mf hv vl))), (8, .int (f_countHolding nc mt i (f_openClauses nc mt mf hv vl))), (0, .ref (ad 1)), (1, .int hv), (3, .long (f_openClauses nc mt mf hv vl)), (7, .int (nI i))]) hx hb dX1_firstLiteral_97 hl (by decide) rfl (fun ls hl => ?_)
            refine lv_iinc (k := 7) (v := (nI (i + 1))) (lv' := [(7, .int (nI (i + 1))), (5, .int (2 * (nI i))), (6, .int ((f_countHolding nc mt i (f_openClauses nc mt mf hv vl)) + (f_countHolding nc mf i (f_openClauses nc mt mf hv vl)))), (9, .int (f_countHolding nc mf i (f_openClauses nc mt mf hv vl))), (8, .int (f_countHolding nc mt i (f_openClauses nc mt mf hv vl))), (0, .ref (ad 1)), (1, .int hv), (3, .long (f_openClauses nc mt mf hv vl))]) hx hb dX1_firstLiteral_99 hl rfl (xinc _) (by decide) rfl (fun ls hl => ?_)
            refine lv_goto (tgt := 16) hx hb dX1_firstLiteral_102 (by decide) ?_
            exact ih (i + 1) (2 * (nI i)) ((f_countHolding nc mt i (f_openClauses nc mt mf hv vl)) + (f_countHolding nc mf i (f_openClauses nc mt mf hv vl))) _ _ _ hF (by omega) hS (lv_sub hl [5, 6, 7, 1, 2, 0] rfl)
          · have hF := hF.trans (if_neg h5)
            refine lv_iconst (v := 2) hx hb dX1_firstLiteral_84 (by decide) ?_
            refine lv_iload hx hb dX1_firstLiteral_85 (lv_at hl 7 rfl) ?_
            refine lv_imul hx hb dX1_firstLiteral_87 ?_
            refine lv_iconst (v := 1) hx hb dX1_firstLiteral_88 (by decide) ?_
            refine lv_iadd hx hb dX1_firstLiteral_89 ?_
            refine lv_goto (tgt := 97) hx hb dX1_firstLiteral_90 (by decide) ?_
            refine lv_istore (lv' := [(5, .int ((2 * (nI i)) + 1)), (6, .int ((f_countHolding nc mt i (f_openClauses nc mt mf hv vl)) + (f_countHolding nc mf i (f_openClauses nc mt mf hv vl)))), (9, .int (f_countHolding nc mf i (f_openClauses nc mt mf hv vl))), (8, .int (f_countHolding nc mt i (f_openClauses nc mt mf hv vl))), (0, .ref (ad 1)), (1, .int hv), (3, .long (f_openClauses nc mt mf hv vl)), (7, .int (nI i))]) hx hb dX1_firstLiteral_97 hl (by decide) rfl (fun ls hl => ?_)
            refine lv_iinc (k := 7) (v := (nI (i + 1))) (lv' := [(7, .int (nI (i + 1))), (5, .int ((2 * (nI i)) + 1)), (6, .int ((f_countHolding nc mt i (f_openClauses nc mt mf hv vl)) + (f_countHolding nc mf i (f_openClauses nc mt mf hv vl)))), (9, .int (f_countHolding nc mf i (f_openClauses nc mt mf hv vl))), (8, .int (f_countHolding nc mt i (f_openClauses nc mt mf hv vl))), (0, .ref (ad 1)), (1, .int hv), (3, .long (f_openClauses nc mt mf hv vl))]) hx hb dX1_firstLiteral_99 hl rfl (xinc _) (by decide) rfl (fun ls hl => ?_)
            refine lv_goto (tgt := 16) hx hb dX1_firstLiteral_102 (by decide) ?_
            exact ih (i + 1) ((2 * (nI i)) + 1) ((f_countHolding nc mt i (f_openClauses nc mt mf hv vl)) + (f_countHolding nc mf i (f_openClauses nc mt mf hv vl))) _ _ _ hF (by omega) hS (lv_sub hl [5, 6, 7, 1, 2, 0] rfl)
  exact lp16 nv 0 (-1) (-1) _ _ _ hF (by omega) hS (lv_sub hl [4, 5, 3, 2, 1, 0] rfl)
