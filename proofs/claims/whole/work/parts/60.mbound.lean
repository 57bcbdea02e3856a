def m_bound (nv nc : Nat) (mt mf wt : Nat → Int32) (hp : Int32) (bo : Int64) (su : Nat) (ss : (Nat → Int64)) (av : (Nat → Int32)) (re : (Nat → Int32)) (gh : Int32) (gv : Int32) (hv vl : Int32) : Option (Int64 × Int32 × Int32 × Int64 × Nat × (Nat → Int64) × (Nat → Int32) × (Nat → Int32) × Int32 × Int32) :=
  if (m_noState nv hv vl) = 0 then
    match (m_reckon nv nc mt mf wt hp bo su ss av re gh gv hv vl) with
    | some (hp1_30, bo1_30, su1_30, ss1_30, av1_30, re1_30, gh1_30, gv1_30) =>
      if hp1_30 = 0 then
        some (bo1_30, (0, hp1_30, bo1_30, su1_30, ss1_30, av1_30, re1_30, gh1_30, gv1_30))
      else
        some ((-2), (0, hp1_30, bo1_30, su1_30, ss1_30, av1_30, re1_30, gh1_30, gv1_30))
    | none => none
  else
    some (0, (1, hp, bo, su, ss, av, re, gh, gv))
def m_subset (nv nc : Nat) (mt mf wt : Nat → Int32) (hp : Int32) (bo : Int64) (su : Nat) (ss : (Nat → Int64)) (av : (Nat → Int32)) (re : (Nat → Int32)) (gh : Int32) (gv : Int32) (hv vl : Int32) (j : Int32) : Option (Int64 × Int32 × Int32 × Int64 × Nat × (Nat → Int64) × (Nat → Int32) × (Nat → Int32) × Int32 × Int32) :=
  if (m_noState nv hv vl) = 0 then
    match (m_reckon nv nc mt mf wt hp bo su ss av re gh gv hv vl) with
    | some (hp1_30, bo1_30, su1_30, ss1_30, av1_30, re1_30, gh1_30, gv1_30) =>
      if j < 0 then
        some (0, (0, hp1_30, bo1_30, su1_30, ss1_30, av1_30, re1_30, gh1_30, gv1_30))
      else
        if j < (nI su1_30) then
          if su1_30 ≤ 40 then
            some ((ss1_30 j.toNatClampNeg), (0, hp1_30, bo1_30, su1_30, ss1_30, av1_30, re1_30, gh1_30, gv1_30))
          else
            none
        else
          some (0, (0, hp1_30, bo1_30, su1_30, ss1_30, av1_30, re1_30, gh1_30, gv1_30))
    | none => none
  else
    some (0, (1, hp, bo, su, ss, av, re, gh, gv))
set_option maxHeartbeats 4000000 in
set_option maxRecDepth 100000 in
theorem k_bound (l : Launch) (dC : Nat → ClassId) (dI : Nat → Nat → Nat) (cI cL cZ : ClassId) (ad : Nat → Nat) (hinj : xI ad 12) (co : Int32) (nv : Nat) (nc : Nat) (mt : (Nat → Int32)) (mf : (Nat → Int32)) (wt : (Nat → Int32)) (hp : Int32) (bo : Int64) (su : Nat) (ss : (Nat → Int64)) (av : (Nat → Int32)) (re : (Nat → Int32)) (gh : Int32) (gv : Int32) (fo : Int32) (bv : Int32) (bc : Int64) (nd : Int32) (lo : Nat) (lh : (Nat → Int32)) (lw : (Nat → Int32)) (lb : (Nat → Int64)) (wa : Nat) (wh : (Nat → Int32)) (wv : (Nat → Int32)) (hnc : nc ≤ 40) (hnv : nv ≤ 10) (hv vl : Int32) (hsome : ∃ z, m_bound nv nc mt mf wt hp bo su ss av re gh gv hv vl = some z) : Met l yX4_bound wsX4_bound ({ frames := 5, cells := 0, slots := 0, locals := 121 }) (va_Pc [.ref (ad 0), .int hv, .int vl] (fun U => va_P (dC, dI) vwCl [(ad 0, .inr (4, [.int co, .int (nI nv), .int (nI nc), .ref (ad 1), .ref (ad 2), .ref (ad 3), .int hp, .long bo, .int (nI su), .ref (ad 4), .ref (ad 5), .ref (ad 6), .int gh, .int gv, .int fo, .int bv, .long bc, .int nd, .int (nI lo), .ref (ad 7), .ref (ad 8), .ref (ad 9), .int (nI wa), .ref (ad 10), .ref (ad 11)])), (ad 1, .inl (cI, 40, .inl mt)), (ad 2, .inl (cI, 40, .inl mf)), (ad 3, .inl (cI, 40, .inl wt)), (ad 4, .inl (cL, 40, .inr (.inl ss))), (ad 5, .inl (cZ, 40, .inl av)), (ad 6, .inl (cI, 10, .inl re)), (ad 7, .inl (cI, 1024, .inl lh)), (ad 8, .inl (cI, 1024, .inl lw)), (ad 9, .inl (cL, 1024, .inr (.inl lb))), (ad 10, .inl (cI, 24, .inl wh)), (ad 11, .inl (cI, 24, .inl wv))] U.heap ∧ va_K (dC, dI) vwCl [(cI, .int), (cL, .long), (cZ, .boolean)] U)) (va_Ql (fun r u => m_bound nv nc mt mf wt hp bo su ss av re gh gv hv vl = some (r, u)) (xB (dC, dI) vwCl (fun (u : Int32 × Int32 × Int64 × Nat × (Nat → Int64) × (Nat → Int32) × (Nat → Int32) × Int32 × Int32) => match u with | (co1, hp1, bo1, su1, ss1, av1, re1, gh1, gv1) => [(ad 0, .inr (4, [.int co1, .int (nI nv), .int (nI nc), .ref (ad 1), .ref (ad 2), .ref (ad 3), .int hp1, .long bo1, .int (nI su1), .ref (ad 4), .ref (ad 5), .ref (ad 6), .int gh1, .int gv1, .int fo, .int bv, .long bc, .int nd, .int (nI lo), .ref (ad 7), .ref (ad 8), .ref (ad 9), .int (nI wa), .ref (ad 10), .ref (ad 11)])), (ad 1, .inl (cI, 40, .inl mt)), (ad 2, .inl (cI, 40, .inl mf)), (ad 3, .inl (cI, 40, .inl wt)), (ad 4, .inl (cL, 40, .inr (.inl ss1))), (ad 5, .inl (cZ, 40, .inl av1)), (ad 6, .inl (cI, 10, .inl re1)), (ad 7, .inl (cI, 1024, .inl lh)), (ad 8, .inl (cI, 1024, .inl lw)), (ad 9, .inl (cL, 1024, .inr (.inl lb))), (ad 10, .inl (cI, 24, .inl wh)), (ad 11, .inl (cI, 24, .inl wv))])) (xA ad [0, 1, 2, 3, 4, 5, 6, 7, 8, 9, 10, 11])) 0 0 (xA ad [0, 1, 2, 3, 4, 5, 6, 7, 8, 9, 10, 11]) := by
  refine Met.ofW (cc := cX4_bound) (maxL := 3) (ret := (some .long)) (by decide) rfl ?_
  intro p e s m args below meth c s₁ B hml hvv
  obtain ⟨rfl, hP0, hK⟩ := hvv
  have hx := B.exec
  have hb := B.bytes
  have hr := B.returns
  have hts := atoms_spec (ws := wsX4_bound) B.pre
  have hown : s.vm.findClass RX4 = some m.cls := findClass_of_methodNamed B.named
  have hlocks := B.notSynchronized
  have hw0 : (.fieldLink RX4 49 "WeightedClausesModel" "code" "I" : Cond).before _ s = true := hts _ (List.mem_cons_of_mem _ wd_530)
  have hw1 : (.fieldLink RX4 120 "WeightedClausesModel" "hopeless" "Z" : Cond).before _ s = true := hts _ (List.mem_cons_of_mem _ wd_536)
  have hw2 : (.fieldLink RX4 123 "WeightedClausesModel" "bound" "J" : Cond).before _ s = true := hts _ (List.mem_cons_of_mem _ wd_537)
  have hw3 : (.constantLong RX4 95 (-2) : Cond).before _ s = true := hts _ (List.mem_cons_of_mem _ wd_666)
  have hP : va_P (dC, dI) vwCl [(ad 0, .inr (4, [.int co, .int (nI nv), .int (nI nc), .ref (ad 1), .ref (ad 2), .ref (ad 3), .int hp, .long bo, .int (nI su), .ref (ad 4), .ref (ad 5), .ref (ad 6), .int gh, .int gv, .int fo, .int bv, .long bc, .int nd, .int (nI lo), .ref (ad 7), .ref (ad 8), .ref (ad 9), .int (nI wa), .ref (ad 10), .ref (ad 11)])), (ad 1, .inl (cI, 40, .inl mt)), (ad 2, .inl (cI, 40, .inl mf)), (ad 3, .inl (cI, 40, .inl wt)), (ad 4, .inl (cL, 40, .inr (.inl ss))), (ad 5, .inl (cZ, 40, .inl av)), (ad 6, .inl (cI, 10, .inl re)), (ad 7, .inl (cI, 1024, .inl lh)), (ad 8, .inl (cI, 1024, .inl lw)), (ad 9, .inl (cL, 1024, .inr (.inl lb))), (ad 10, .inl (cI, 24, .inl wh)), (ad 11, .inl (cI, 24, .inl wv))] s.heap := hP0.sub [0, 1, 2, 3, 4, 5, 6, 7, 8, 9, 10, 11] rfl
  have hS : va_S (xA ad [0, 1, 2, 3, 4, 5, 6, 7, 8, 9, 10, 11]) s.heap s.heap [] := va_S.rf
  have hl := lv_entry [.ref (ad 0), .int hv, .int vl] (n := 3) (Nat.le_of_ble_eq_true rfl)
  rw [lg_entry_eq]
  generalize (lg_sl [.ref (ad 0), .int hv, .int vl] ++ List.replicate (3 - (lg_sl [.ref (ad 0), .int hv, .int vl]).length) Slot.unset).toArray = ls at hl ⊢
  have hl : lv_has ls 3 [(0, .ref (ad 0)), (1, .int hv), (2, .int vl)] := hl
  have hF := Eq.refl (m_bound nv nc mt mf wt hp bo su ss av re gh gv hv vl)
  conv at hF => rhs; unfold m_bound
  refine lv_aload_n hx hb dX4_bound_0 rfl (lv_at hl 0 rfl) ?_
  refine lv_aload_n hx hb dX4_bound_1 rfl (lv_at hl 0 rfl) ?_
  refine lv_iload_n hx hb dX4_bound_2 rfl (lv_at hl 1 rfl) ?_
  refine lv_iload_n hx hb dX4_bound_3 rfl (lv_at hl 2 rfl) ?_
  refine xro_i (va_runV (As := [.int hv, .int vl]) (rest := [.ref (ad 0)]) ⟨hx, hb, hml, hown, hts⟩ (k_noState l dC dI cI cL cZ ad hinj co nv nc mt mf wt hp bo su ss av re gh gv fo bv bc nd lo lh lw lb wa wh wv hv vl) (xcwV 2 hts wd_653 wd_39 wd_650 wd_652 wd_19 rfl rfl (by decide +kernel) ⟨Nat.le_of_ble_eq_true rfl, Nat.le_of_ble_eq_true rfl⟩) (xpreV (va_recv hK hP rfl (q0 := 0) rfl) hP hK) rfl rfl hl.1 rfl (lv_room (Nat.le_of_ble_eq_true rfl)) dX4_bound_4 ⟨Nat.le_of_ble_eq_true rfl, Nat.le_of_ble_eq_true rfl⟩) hS (fun H locs hk hS => ?_)
  have hP := xkeep hP hk
  refine lv_if_eq (tgt := 14) hx hb dX4_bound_7 (by decide) (fun h1 => ?_) (fun h1 => ?_)
  · have hF := hF.trans (if_pos h1)
    refine lv_iconst (v := 0) hx hb dX4_bound_14 (by decide) ?_
    refine va_put (D := (dC, dI)) (ci := 4) (v := .int 0) (ty := .int) (C := RX4) (T := TX4) (N := 25) hx hb hts (xcons inX4) tyX4 tyX4_ok nX4 hown hK hP (xD hinj [0, 1, 2, 3, 4, 5, 6, 7, 8, 9, 10, 11] rfl (by decide) (by decide)) hS 0 rfl rfl 0 (by decide) hw0 (fun _ h9 => h9) rfl (by decide +kernel) rfl rfl (Nat.le_of_ble_eq_true rfl) dX4_bound_15 (fun H locs hP _ hS => ?_)
    have hP : va_P (dC, dI) vwCl [(ad 0, .inr (4, [.int 0, .int (nI nv), .int (nI nc), .ref (ad 1), .ref (ad 2), .ref (ad 3), .int hp, .long bo, .int (nI su), .ref (ad 4), .ref (ad 5), .ref (ad 6), .int gh, .int gv, .int fo, .int bv, .long bc, .int nd, .int (nI lo), .ref (ad 7), .ref (ad 8), .ref (ad 9), .int (nI wa), .ref (ad 10), .ref (ad 11)])), (ad 1, .inl (cI, 40, .inl mt)), (ad 2, .inl (cI, 40, .inl mf)), (ad 3, .inl (cI, 40, .inl wt)), (ad 4, .inl (cL, 40, .inr (.inl ss))), (ad 5, .inl (cZ, 40, .inl av)), (ad 6, .inl (cI, 10, .inl re)), (ad 7, .inl (cI, 1024, .inl lh)), (ad 8, .inl (cI, 1024, .inl lw)), (ad 9, .inl (cL, 1024, .inr (.inl lb))), (ad 10, .inl (cI, 24, .inl wh)), (ad 11, .inl (cI, 24, .inl wv))] H := hP
    refine lv_aload_n hx hb dX4_bound_18 rfl (lv_at hl 0 rfl) ?_
    refine va_get (D := (dC, dI)) (ci := 4) (v := .int 0) (C := RX4) (T := TX4) (N := 25) hx hb hts (xcons inX4) hown hK hP 0 rfl rfl 0 (by decide) hw0 (fun _ h9 => h9) rfl dX4_bound_19 ?_
    refine lv_if_le (tgt := 27) hx hb dX4_bound_22 (by decide) (fun h2 => ?_) (fun h2 => absurd (by decide) h2)
    refine lv_aload_n hx hb dX4_bound_27 rfl (lv_at hl 0 rfl) ?_
    refine lv_iload_n hx hb dX4_bound_28 rfl (lv_at hl 1 rfl) ?_
    refine lv_iload_n hx hb dX4_bound_29 rfl (lv_at hl 2 rfl) ?_
    have hs30 : ∃ z, (m_reckon nv nc mt mf wt hp bo su ss av re gh gv hv vl) = some z := by
      cases hq : (m_reckon nv nc mt mf wt hp bo su ss av re gh gv hv vl) with
      | none => rw [hq] at hF; obtain ⟨z, hz⟩ := hsome; rw [hz] at hF; cases hF
      | some z => exact ⟨z, rfl⟩
    refine xrw_v (va_runV (As := [.int hv, .int vl]) (rest := []) ⟨hx, hb, hml, hown, hts⟩ (k_reckon l dC dI cI cL cZ ad hinj 0 nv nc mt mf wt hp bo su ss av re gh gv fo bv bc nd lo lh lw lb wa wh wv (by omega) (by omega) hv vl hs30) (xcwV 2 hts wd_678 wd_39 wd_675 wd_677 wd_24 rfl rfl (by decide +kernel) ⟨Nat.le_of_ble_eq_true rfl, Nat.le_of_ble_eq_true rfl⟩) (xpreV (va_recv hK hP rfl (q0 := 0) rfl) hP hK) rfl rfl hl.1 rfl (lv_room (Nat.le_of_ble_eq_true rfl)) dX4_bound_30 ⟨Nat.le_of_ble_eq_true rfl, Nat.le_of_ble_eq_true rfl⟩) hS (xAsub (by decide)) (fun u H locs h3 hB hk hS => ?_)
    obtain ⟨hp1_30, bo1_30, su1_30, ss1_30, av1_30, re1_30, gh1_30, gv1_30⟩ := u
    have hP : va_P (dC, dI) vwCl [(ad 0, .inr (4, [.int 0, .int (nI nv), .int (nI nc), .ref (ad 1), .ref (ad 2), .ref (ad 3), .int hp1_30, .long bo1_30, .int (nI su1_30), .ref (ad 4), .ref (ad 5), .ref (ad 6), .int gh1_30, .int gv1_30, .int fo, .int bv, .long bc, .int nd, .int (nI lo), .ref (ad 7), .ref (ad 8), .ref (ad 9), .int (nI wa), .ref (ad 10), .ref (ad 11)])), (ad 1, .inl (cI, 40, .inl mt)), (ad 2, .inl (cI, 40, .inl mf)), (ad 3, .inl (cI, 40, .inl wt)), (ad 4, .inl (cL, 40, .inr (.inl ss1_30))), (ad 5, .inl (cZ, 40, .inl av1_30)), (ad 6, .inl (cI, 10, .inl re1_30)), (ad 7, .inl (cI, 1024, .inl lh)), (ad 8, .inl (cI, 1024, .inl lw)), (ad 9, .inl (cL, 1024, .inr (.inl lb))), (ad 10, .inl (cI, 24, .inl wh)), (ad 11, .inl (cI, 24, .inl wv))] H := va_P.sub hB [0, 1, 2, 3, 4, 5, 6, 7, 8, 9, 10, 11] rfl
    rw [h3] at hF
    try dsimp only at hF
    refine lv_aload_n hx hb dX4_bound_33 rfl (lv_at hl 0 rfl) ?_
    refine va_get (D := (dC, dI)) (ci := 4) (v := .int hp1_30) (C := RX4) (T := TX4) (N := 25) hx hb hts (xcons inX4) hown hK hP 0 rfl rfl 6 (by decide) hw1 (fun _ h9 => h9) rfl dX4_bound_34 ?_
    refine lv_if_eq (tgt := 46) hx hb dX4_bound_37 (by decide) (fun h4 => ?_) (fun h4 => ?_)
    · have hF := hF.trans (if_pos h4)
      refine lv_aload_n hx hb dX4_bound_46 rfl (lv_at hl 0 rfl) ?_
      refine va_get (D := (dC, dI)) (ci := 4) (v := .long bo1_30) (C := RX4) (T := TX4) (N := 25) hx hb hts (xcons inX4) hown hK hP 0 rfl rfl 7 (by decide) hw2 (fun _ h9 => h9) rfl dX4_bound_47 ?_
      exact W.lret (v := bo1_30) hx hb hr (fun t ht hW => ⟨⟨_, (0, hp1_30, bo1_30, su1_30, ss1_30, av1_30, re1_30, gh1_30, gv1_30), rfl, hF, xBi ht hP⟩, hS.F ht⟩) hS.2.2 dX4_bound_50
    · have hF := hF.trans (if_neg h4)
      refine lv_ldc2 hx hb hown hw3 dX4_bound_40 ?_
      refine lv_goto (tgt := 50) hx hb dX4_bound_43 (by decide) ?_
      exact W.lret (v := (-2)) hx hb hr (fun t ht hW => ⟨⟨_, (0, hp1_30, bo1_30, su1_30, ss1_30, av1_30, re1_30, gh1_30, gv1_30), rfl, hF, xBi ht hP⟩, hS.F ht⟩) hS.2.2 dX4_bound_50
  · have hF := hF.trans (if_neg h1)
    refine lv_iconst (v := 1) hx hb dX4_bound_10 (by decide) ?_
    refine lv_goto (tgt := 15) hx hb dX4_bound_11 (by decide) ?_
    refine va_put (D := (dC, dI)) (ci := 4) (v := .int 1) (ty := .int) (C := RX4) (T := TX4) (N := 25) hx hb hts (xcons inX4) tyX4 tyX4_ok nX4 hown hK hP (xD hinj [0, 1, 2, 3, 4, 5, 6, 7, 8, 9, 10, 11] rfl (by decide) (by decide)) hS 0 rfl rfl 0 (by decide) hw0 (fun _ h9 => h9) rfl (by decide +kernel) rfl rfl (Nat.le_of_ble_eq_true rfl) dX4_bound_15 (fun H locs hP _ hS => ?_)
    have hP : va_P (dC, dI) vwCl [(ad 0, .inr (4, [.int 1, .int (nI nv), .int (nI nc), .ref (ad 1), .ref (ad 2), .ref (ad 3), .int hp, .long bo, .int (nI su), .ref (ad 4), .ref (ad 5), .ref (ad 6), .int gh, .int gv, .int fo, .int bv, .long bc, .int nd, .int (nI lo), .ref (ad 7), .ref (ad 8), .ref (ad 9), .int (nI wa), .ref (ad 10), .ref (ad 11)])), (ad 1, .inl (cI, 40, .inl mt)), (ad 2, .inl (cI, 40, .inl mf)), (ad 3, .inl (cI, 40, .inl wt)), (ad 4, .inl (cL, 40, .inr (.inl ss))), (ad 5, .inl (cZ, 40, .inl av)), (ad 6, .inl (cI, 10, .inl re)), (ad 7, .inl (cI, 1024, .inl lh)), (ad 8, .inl (cI, 1024, .inl lw)), (ad 9, .inl (cL, 1024, .inr (.inl lb))), (ad 10, .inl (cI, 24, .inl wh)), (ad 11, .inl (cI, 24, .inl wv))] H := hP
    refine lv_aload_n hx hb dX4_bound_18 rfl (lv_at hl 0 rfl) ?_
    refine va_get (D := (dC, dI)) (ci := 4) (v := .int 1) (C := RX4) (T := TX4) (N := 25) hx hb hts (xcons inX4) hown hK hP 0 rfl rfl 0 (by decide) hw0 (fun _ h9 => h9) rfl dX4_bound_19 ?_
    refine lv_if_le (tgt := 27) hx hb dX4_bound_22 (by decide) (fun h5 => absurd h5 (by decide)) (fun h5 => ?_)
    refine lv_lconst (v := 0) hx hb dX4_bound_25 (by decide) ?_
    exact W.lret (v := 0) hx hb hr (fun t ht hW => ⟨⟨_, (1, hp, bo, su, ss, av, re, gh, gv), rfl, hF, xBi ht hP⟩, hS.F ht⟩) hS.2.2 dX4_bound_26
set_option maxHeartbeats 4000000 in
set_option maxRecDepth 100000 in
theorem k_subset (l : Launch) (dC : Nat → ClassId) (dI : Nat → Nat → Nat) (cI cL cZ : ClassId) (ad : Nat → Nat) (hinj : xI ad 12) (co : Int32) (nv : Nat) (nc : Nat) (mt : (Nat → Int32)) (mf : (Nat → Int32)) (wt : (Nat → Int32)) (hp : Int32) (bo : Int64) (su : Nat) (ss : (Nat → Int64)) (av : (Nat → Int32)) (re : (Nat → Int32)) (gh : Int32) (gv : Int32) (fo : Int32) (bv : Int32) (bc : Int64) (nd : Int32) (lo : Nat) (lh : (Nat → Int32)) (lw : (Nat → Int32)) (lb : (Nat → Int64)) (wa : Nat) (wh : (Nat → Int32)) (wv : (Nat → Int32)) (hnc : nc ≤ 40) (hnv : nv ≤ 10) (hv vl : Int32) (j : Int32) (hsome : ∃ z, m_subset nv nc mt mf wt hp bo su ss av re gh gv hv vl j = some z) : Met l yX4_subset wsX4_subset ({ frames := 5, cells := 0, slots := 0, locals := 121 }) (va_Pc [.ref (ad 0), .int hv, .int vl, .int j] (fun U => va_P (dC, dI) vwCl [(ad 0, .inr (4, [.int co, .int (nI nv), .int (nI nc), .ref (ad 1), .ref (ad 2), .ref (ad 3), .int hp, .long bo, .int (nI su), .ref (ad 4), .ref (ad 5), .ref (ad 6), .int gh, .int gv, .int fo, .int bv, .long bc, .int nd, .int (nI lo), .ref (ad 7), .ref (ad 8), .ref (ad 9), .int (nI wa), .ref (ad 10), .ref (ad 11)])), (ad 1, .inl (cI, 40, .inl mt)), (ad 2, .inl (cI, 40, .inl mf)), (ad 3, .inl (cI, 40, .inl wt)), (ad 4, .inl (cL, 40, .inr (.inl ss))), (ad 5, .inl (cZ, 40, .inl av)), (ad 6, .inl (cI, 10, .inl re)), (ad 7, .inl (cI, 1024, .inl lh)), (ad 8, .inl (cI, 1024, .inl lw)), (ad 9, .inl (cL, 1024, .inr (.inl lb))), (ad 10, .inl (cI, 24, .inl wh)), (ad 11, .inl (cI, 24, .inl wv))] U.heap ∧ va_K (dC, dI) vwCl [(cI, .int), (cL, .long), (cZ, .boolean)] U)) (va_Ql (fun r u => m_subset nv nc mt mf wt hp bo su ss av re gh gv hv vl j = some (r, u)) (xB (dC, dI) vwCl (fun (u : Int32 × Int32 × Int64 × Nat × (Nat → Int64) × (Nat → Int32) × (Nat → Int32) × Int32 × Int32) => match u with | (co1, hp1, bo1, su1, ss1, av1, re1, gh1, gv1) => [(ad 0, .inr (4, [.int co1, .int (nI nv), .int (nI nc), .ref (ad 1), .ref (ad 2), .ref (ad 3), .int hp1, .long bo1, .int (nI su1), .ref (ad 4), .ref (ad 5), .ref (ad 6), .int gh1, .int gv1, .int fo, .int bv, .long bc, .int nd, .int (nI lo), .ref (ad 7), .ref (ad 8), .ref (ad 9), .int (nI wa), .ref (ad 10), .ref (ad 11)])), (ad 1, .inl (cI, 40, .inl mt)), (ad 2, .inl (cI, 40, .inl mf)), (ad 3, .inl (cI, 40, .inl wt)), (ad 4, .inl (cL, 40, .inr (.inl ss1))), (ad 5, .inl (cZ, 40, .inl av1)), (ad 6, .inl (cI, 10, .inl re1)), (ad 7, .inl (cI, 1024, .inl lh)), (ad 8, .inl (cI, 1024, .inl lw)), (ad 9, .inl (cL, 1024, .inr (.inl lb))), (ad 10, .inl (cI, 24, .inl wh)), (ad 11, .inl (cI, 24, .inl wv))])) (xA ad [0, 1, 2, 3, 4, 5, 6, 7, 8, 9, 10, 11])) 0 0 (xA ad [0, 1, 2, 3, 4, 5, 6, 7, 8, 9, 10, 11]) := by
  refine Met.ofW (cc := cX4_subset) (maxL := 4) (ret := (some .long)) (by decide) rfl ?_
  intro p e s m args below meth c s₁ B hml hvv
  obtain ⟨rfl, hP0, hK⟩ := hvv
  have hx := B.exec
  have hb := B.bytes
  have hr := B.returns
  have hts := atoms_spec (ws := wsX4_subset) B.pre
  have hown : s.vm.findClass RX4 = some m.cls := findClass_of_methodNamed B.named
  have hlocks := B.notSynchronized
  have hw0 : (.fieldLink RX4 49 "WeightedClausesModel" "code" "I" : Cond).before _ s = true := hts _ (List.mem_cons_of_mem _ wd_530)
  have hw1 : (.fieldLink RX4 117 "WeightedClausesModel" "subsets" "I" : Cond).before _ s = true := hts _ (List.mem_cons_of_mem _ wd_538)
  have hw2 : (.fieldLink RX4 19 "WeightedClausesModel" "subset" "[J" : Cond).before _ s = true := hts _ (List.mem_cons_of_mem _ wd_539)
  have hP : va_P (dC, dI) vwCl [(ad 0, .inr (4, [.int co, .int (nI nv), .int (nI nc), .ref (ad 1), .ref (ad 2), .ref (ad 3), .int hp, .long bo, .int (nI su), .ref (ad 4), .ref (ad 5), .ref (ad 6), .int gh, .int gv, .int fo, .int bv, .long bc, .int nd, .int (nI lo), .ref (ad 7), .ref (ad 8), .ref (ad 9), .int (nI wa), .ref (ad 10), .ref (ad 11)])), (ad 1, .inl (cI, 40, .inl mt)), (ad 2, .inl (cI, 40, .inl mf)), (ad 3, .inl (cI, 40, .inl wt)), (ad 4, .inl (cL, 40, .inr (.inl ss))), (ad 5, .inl (cZ, 40, .inl av)), (ad 6, .inl (cI, 10, .inl re)), (ad 7, .inl (cI, 1024, .inl lh)), (ad 8, .inl (cI, 1024, .inl lw)), (ad 9, .inl (cL, 1024, .inr (.inl lb))), (ad 10, .inl (cI, 24, .inl wh)), (ad 11, .inl (cI, 24, .inl wv))] s.heap := hP0.sub [0, 1, 2, 3, 4, 5, 6, 7, 8, 9, 10, 11] rfl
  have hS : va_S (xA ad [0, 1, 2, 3, 4, 5, 6, 7, 8, 9, 10, 11]) s.heap s.heap [] := va_S.rf
  have hl := lv_entry [.ref (ad 0), .int hv, .int vl, .int j] (n := 4) (Nat.le_of_ble_eq_true rfl)
  rw [lg_entry_eq]
  generalize (lg_sl [.ref (ad 0), .int hv, .int vl, .int j] ++ List.replicate (4 - (lg_sl [.ref (ad 0), .int hv, .int vl, .int j]).length) Slot.unset).toArray = ls at hl ⊢
  have hl : lv_has ls 4 [(0, .ref (ad 0)), (1, .int hv), (2, .int vl), (3, .int j)] := hl
  have hF := Eq.refl (m_subset nv nc mt mf wt hp bo su ss av re gh gv hv vl j)
  conv at hF => rhs; unfold m_subset
  refine lv_aload_n hx hb dX4_subset_0 rfl (lv_at hl 0 rfl) ?_
  refine lv_aload_n hx hb dX4_subset_1 rfl (lv_at hl 0 rfl) ?_
  refine lv_iload_n hx hb dX4_subset_2 rfl (lv_at hl 1 rfl) ?_
  refine lv_iload_n hx hb dX4_subset_3 rfl (lv_at hl 2 rfl) ?_
  refine xro_i (va_runV (As := [.int hv, .int vl]) (rest := [.ref (ad 0)]) ⟨hx, hb, hml, hown, hts⟩ (k_noState l dC dI cI cL cZ ad hinj co nv nc mt mf wt hp bo su ss av re gh gv fo bv bc nd lo lh lw lb wa wh wv hv vl) (xcwV 2 hts wd_653 wd_39 wd_650 wd_652 wd_19 rfl rfl (by decide +kernel) ⟨Nat.le_of_ble_eq_true rfl, Nat.le_of_ble_eq_true rfl⟩) (xpreV (va_recv hK hP rfl (q0 := 0) rfl) hP hK) rfl rfl hl.1 rfl (lv_room (Nat.le_of_ble_eq_true rfl)) dX4_subset_4 ⟨Nat.le_of_ble_eq_true rfl, Nat.le_of_ble_eq_true rfl⟩) hS (fun H locs hk hS => ?_)
  have hP := xkeep hP hk
  refine lv_if_eq (tgt := 14) hx hb dX4_subset_7 (by decide) (fun h1 => ?_) (fun h1 => ?_)
  · have hF := hF.trans (if_pos h1)
    refine lv_iconst (v := 0) hx hb dX4_subset_14 (by decide) ?_
    refine va_put (D := (dC, dI)) (ci := 4) (v := .int 0) (ty := .int) (C := RX4) (T := TX4) (N := 25) hx hb hts (xcons inX4) tyX4 tyX4_ok nX4 hown hK hP (xD hinj [0, 1, 2, 3, 4, 5, 6, 7, 8, 9, 10, 11] rfl (by decide) (by decide)) hS 0 rfl rfl 0 (by decide) hw0 (fun _ h9 => h9) rfl (by decide +kernel) rfl rfl (Nat.le_of_ble_eq_true rfl) dX4_subset_15 (fun H locs hP _ hS => ?_)
    have hP : va_P (dC, dI) vwCl [(ad 0, .inr (4, [.int 0, .int (nI nv), .int (nI nc), .ref (ad 1), .ref (ad 2), .ref (ad 3), .int hp, .long bo, .int (nI su), .ref (ad 4), .ref (ad 5), .ref (ad 6), .int gh, .int gv, .int fo, .int bv, .long bc, .int nd, .int (nI lo), .ref (ad 7), .ref (ad 8), .ref (ad 9), .int (nI wa), .ref (ad 10), .ref (ad 11)])), (ad 1, .inl (cI, 40, .inl mt)), (ad 2, .inl (cI, 40, .inl mf)), (ad 3, .inl (cI, 40, .inl wt)), (ad 4, .inl (cL, 40, .inr (.inl ss))), (ad 5, .inl (cZ, 40, .inl av)), (ad 6, .inl (cI, 10, .inl re)), (ad 7, .inl (cI, 1024, .inl lh)), (ad 8, .inl (cI, 1024, .inl lw)), (ad 9, .inl (cL, 1024, .inr (.inl lb))), (ad 10, .inl (cI, 24, .inl wh)), (ad 11, .inl (cI, 24, .inl wv))] H := hP
    refine lv_aload_n hx hb dX4_subset_18 rfl (lv_at hl 0 rfl) ?_
    refine va_get (D := (dC, dI)) (ci := 4) (v := .int 0) (C := RX4) (T := TX4) (N := 25) hx hb hts (xcons inX4) hown hK hP 0 rfl rfl 0 (by decide) hw0 (fun _ h9 => h9) rfl dX4_subset_19 ?_
    refine lv_if_le (tgt := 27) hx hb dX4_subset_22 (by decide) (fun h2 => ?_) (fun h2 => absurd (by decide) h2)
    refine lv_aload_n hx hb dX4_subset_27 rfl (lv_at hl 0 rfl) ?_
    refine lv_iload_n hx hb dX4_subset_28 rfl (lv_at hl 1 rfl) ?_
    refine lv_iload_n hx hb dX4_subset_29 rfl (lv_at hl 2 rfl) ?_
    have hs30 : ∃ z, (m_reckon nv nc mt mf wt hp bo su ss av re gh gv hv vl) = some z := by
      cases hq : (m_reckon nv nc mt mf wt hp bo su ss av re gh gv hv vl) with
      | none => rw [hq] at hF; obtain ⟨z, hz⟩ := hsome; rw [hz] at hF; cases hF
      | some z => exact ⟨z, rfl⟩
    refine xrw_v (va_runV (As := [.int hv, .int vl]) (rest := []) ⟨hx, hb, hml, hown, hts⟩ (k_reckon l dC dI cI cL cZ ad hinj 0 nv nc mt mf wt hp bo su ss av re gh gv fo bv bc nd lo lh lw lb wa wh wv (by omega) (by omega) hv vl hs30) (xcwV 2 hts wd_678 wd_39 wd_675 wd_677 wd_24 rfl rfl (by decide +kernel) ⟨Nat.le_of_ble_eq_true rfl, Nat.le_of_ble_eq_true rfl⟩) (xpreV (va_recv hK hP rfl (q0 := 0) rfl) hP hK) rfl rfl hl.1 rfl (lv_room (Nat.le_of_ble_eq_true rfl)) dX4_subset_30 ⟨Nat.le_of_ble_eq_true rfl, Nat.le_of_ble_eq_true rfl⟩) hS (xAsub (by decide)) (fun u H locs h3 hB hk hS => ?_)
    obtain ⟨hp1_30, bo1_30, su1_30, ss1_30, av1_30, re1_30, gh1_30, gv1_30⟩ := u
    have hP : va_P (dC, dI) vwCl [(ad 0, .inr (4, [.int 0, .int (nI nv), .int (nI nc), .ref (ad 1), .ref (ad 2), .ref (ad 3), .int hp1_30, .long bo1_30, .int (nI su1_30), .ref (ad 4), .ref (ad 5), .ref (ad 6), .int gh1_30, .int gv1_30, .int fo, .int bv, .long bc, .int nd, .int (nI lo), .ref (ad 7), .ref (ad 8), .ref (ad 9), .int (nI wa), .ref (ad 10), .ref (ad 11)])), (ad 1, .inl (cI, 40, .inl mt)), (ad 2, .inl (cI, 40, .inl mf)), (ad 3, .inl (cI, 40, .inl wt)), (ad 4, .inl (cL, 40, .inr (.inl ss1_30))), (ad 5, .inl (cZ, 40, .inl av1_30)), (ad 6, .inl (cI, 10, .inl re1_30)), (ad 7, .inl (cI, 1024, .inl lh)), (ad 8, .inl (cI, 1024, .inl lw)), (ad 9, .inl (cL, 1024, .inr (.inl lb))), (ad 10, .inl (cI, 24, .inl wh)), (ad 11, .inl (cI, 24, .inl wv))] H := va_P.sub hB [0, 1, 2, 3, 4, 5, 6, 7, 8, 9, 10, 11] rfl
    rw [h3] at hF
    try dsimp only at hF
    refine lv_iload_n hx hb dX4_subset_33 rfl (lv_at hl 3 rfl) ?_
    refine lv_if_lt (tgt := 45) hx hb dX4_subset_34 (by decide) (fun h4 => ?_) (fun h4 => ?_)
    · have hF := hF.trans (if_pos h4)
      refine lv_lconst (v := 0) hx hb dX4_subset_45 (by decide) ?_
      refine lv_goto (tgt := 55) hx hb dX4_subset_46 (by decide) ?_
      exact W.lret (v := 0) hx hb hr (fun t ht hW => ⟨⟨_, (0, hp1_30, bo1_30, su1_30, ss1_30, av1_30, re1_30, gh1_30, gv1_30), rfl, hF, xBi ht hP⟩, hS.F ht⟩) hS.2.2 dX4_subset_55
    · have hF := hF.trans (if_neg h4)
      have hj1 := h4
      refine lv_iload_n hx hb dX4_subset_37 rfl (lv_at hl 3 rfl) ?_
      refine lv_aload_n hx hb dX4_subset_38 rfl (lv_at hl 0 rfl) ?_
      refine va_get (D := (dC, dI)) (ci := 4) (v := .int (nI su1_30)) (C := RX4) (T := TX4) (N := 25) hx hb hts (xcons inX4) hown hK hP 0 rfl rfl 8 (by decide) hw1 (fun _ h9 => h9) rfl dX4_subset_39 ?_
      refine lv_icmp_lt (tgt := 49) hx hb dX4_subset_42 (by decide) (fun h5 => ?_) (fun h5 => ?_)
      · have hF := hF.trans (if_pos h5)
        have hj2 := xnlt h5
        by_cases h6 : su1_30 ≤ 40
        case neg =>
          have hF := hF.trans (if_neg h6)
          obtain ⟨z, hz⟩ := hsome
          rw [hz] at hF
          cases hF
        have hF := hF.trans (if_pos h6)
        refine lv_aload_n hx hb dX4_subset_49 rfl (lv_at hl 0 rfl) ?_
        refine va_get (D := (dC, dI)) (ci := 4) (v := .ref (ad 4)) (C := RX4) (T := TX4) (N := 25) hx hb hts (xcons inX4) hown hK hP 0 rfl rfl 9 (by decide) hw2 (fun _ h9 => h9) rfl dX4_subset_50 ?_
        refine lv_iload_n hx hb dX4_subset_53 rfl (lv_at hl 3 rfl) ?_
        refine va_lald hx hb hK hP 4 1 rfl rfl (xin hj1 hj2 (by omega) (by decide)) dX4_subset_54 ?_
        exact W.lret (v := (ss1_30 j.toNatClampNeg)) hx hb hr (fun t ht hW => ⟨⟨_, (0, hp1_30, bo1_30, su1_30, ss1_30, av1_30, re1_30, gh1_30, gv1_30), rfl, hF, xBi ht hP⟩, hS.F ht⟩) hS.2.2 dX4_subset_55
      · have hF := hF.trans (if_neg h5)
        refine lv_lconst (v := 0) hx hb dX4_subset_45 (by decide) ?_
        refine lv_goto (tgt := 55) hx hb dX4_subset_46 (by decide) ?_
        exact W.lret (v := 0) hx hb hr (fun t ht hW => ⟨⟨_, (0, hp1_30, bo1_30, su1_30, ss1_30, av1_30, re1_30, gh1_30, gv1_30), rfl, hF, xBi ht hP⟩, hS.F ht⟩) hS.2.2 dX4_subset_55
  · have hF := hF.trans (if_neg h1)
    refine lv_iconst (v := 1) hx hb dX4_subset_10 (by decide) ?_
    refine lv_goto (tgt := 15) hx hb dX4_subset_11 (by decide) ?_
    refine va_put (D := (dC, dI)) (ci := 4) (v := .int 1) (ty := .int) (C := RX4) (T := TX4) (N := 25) hx hb hts (xcons inX4) tyX4 tyX4_ok nX4 hown hK hP (xD hinj [0, 1, 2, 3, 4, 5, 6, 7, 8, 9, 10, 11] rfl (by decide) (by decide)) hS 0 rfl rfl 0 (by decide) hw0 (fun _ h9 => h9) rfl (by decide +kernel) rfl rfl (Nat.le_of_ble_eq_true rfl) dX4_subset_15 (fun H locs hP _ hS => ?_)
    have hP : va_P (dC, dI) vwCl [(ad 0, .inr (4, [.int 1, .int (nI nv), .int (nI nc), .ref (ad 1), .ref (ad 2), .ref (ad 3), .int hp, .long bo, .int (nI su), .ref (ad 4), .ref (ad 5), .ref (ad 6), .int gh, .int gv, .int fo, .int bv, .long bc, .int nd, .int (nI lo), .ref (ad 7), .ref (ad 8), .ref (ad 9), .int (nI wa), .ref (ad 10), .ref (ad 11)])), (ad 1, .inl (cI, 40, .inl mt)), (ad 2, .inl (cI, 40, .inl mf)), (ad 3, .inl (cI, 40, .inl wt)), (ad 4, .inl (cL, 40, .inr (.inl ss))), (ad 5, .inl (cZ, 40, .inl av)), (ad 6, .inl (cI, 10, .inl re)), (ad 7, .inl (cI, 1024, .inl lh)), (ad 8, .inl (cI, 1024, .inl lw)), (ad 9, .inl (cL, 1024, .inr (.inl lb))), (ad 10, .inl (cI, 24, .inl wh)), (ad 11, .inl (cI, 24, .inl wv))] H := hP
    refine lv_aload_n hx hb dX4_subset_18 rfl (lv_at hl 0 rfl) ?_
    refine va_get (D := (dC, dI)) (ci := 4) (v := .int 1) (C := RX4) (T := TX4) (N := 25) hx hb hts (xcons inX4) hown hK hP 0 rfl rfl 0 (by decide) hw0 (fun _ h9 => h9) rfl dX4_subset_19 ?_
    refine lv_if_le (tgt := 27) hx hb dX4_subset_22 (by decide) (fun h7 => absurd h7 (by decide)) (fun h7 => ?_)
    refine lv_lconst (v := 0) hx hb dX4_subset_25 (by decide) ?_
    exact W.lret (v := 0) hx hb hr (fun t ht hW => ⟨⟨_, (1, hp, bo, su, ss, av, re, gh, gv), rfl, hF, xBi ht hP⟩, hS.F ht⟩) hS.2.2 dX4_subset_26
