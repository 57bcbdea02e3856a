def m_solve_L (nv nc : Nat) (mt mf wt : Nat → Int32) : Nat → Int32 → Int64 → Nat → (Nat → Int64) → (Nat → Int32) → (Nat → Int32) → Int32 → Int32 → Int32 → Int32 → Int64 → Int32 → Nat → (Nat → Int32) → (Nat → Int32) → (Nat → Int64) → Nat → (Nat → Int32) → (Nat → Int32) → Option (Int64 × Int32 × Int32 × Int64 × Nat × (Nat → Int64) × (Nat → Int32) × (Nat → Int32) × Int32 × Int32 × Int32 × Int32 × Int64 × Int32 × Nat × (Nat → Int32) × (Nat → Int32) × (Nat → Int64) × Nat × (Nat → Int32) × (Nat → Int32))
  | 0, hp2, bo2, su2, ss2, av2, re2, gh2, gv2, fo2, bv2, bc2, nd2, lo2, lh2, lw2, lb2, wa2, wh2, wv2 =>
    none
  | n + 1, hp2, bo2, su2, ss2, av2, re2, gh2, gv2, fo2, bv2, bc2, nd2, lo2, lh2, lw2, lb2, wa2, wh2, wv2 =>
    if (nI wa2) ≤ 0 then
      if fo2 = 0 then
        some ((-2), (0, hp2, bo2, su2, ss2, av2, re2, gh2, gv2, fo2, bv2, bc2, nd2, lo2, lh2, lw2, lb2, wa2, wh2, wv2))
      else
        some (bc2, (0, hp2, bo2, su2, ss2, av2, re2, gh2, gv2, fo2, bv2, bc2, nd2, lo2, lh2, lw2, lb2, wa2, wh2, wv2))
    else
      if wa2 < 25 then
        match (m_node nv nc mt mf wt hp2 bo2 su2 ss2 av2 re2 gh2 gv2 fo2 bv2 bc2 nd2 lo2 lh2 lw2 lb2 (wa2 - 1) wh2 wv2 (wh2 (wa2 - 1)) (wv2 (wa2 - 1))) with
        | some (hp1_56, bo1_56, su1_56, ss1_56, av1_56, re1_56, gh1_56, gv1_56, fo1_56, bv1_56, bc1_56, nd1_56, lo1_56, lh1_56, lw1_56, lb1_56, wa1_56, wh1_56, wv1_56) =>
          m_solve_L nv nc mt mf wt n hp1_56 bo1_56 su1_56 ss1_56 av1_56 re1_56 gh1_56 gv1_56 fo1_56 bv1_56 bc1_56 nd1_56 lo1_56 lh1_56 lw1_56 lb1_56 wa1_56 wh1_56 wv1_56
        | none => none
      else
        none
def m_solve (nv nc : Nat) (mt mf wt : Nat → Int32) (hp : Int32) (bo : Int64) (su : Nat) (ss : (Nat → Int64)) (av : (Nat → Int32)) (re : (Nat → Int32)) (gh : Int32) (gv : Int32) (fo : Int32) (bv : Int32) (bc : Int64) (nd : Int32) (lo : Nat) (lh : (Nat → Int32)) (lw : (Nat → Int32)) (lb : (Nat → Int64)) (wa : Nat) (wh : (Nat → Int32)) (wv : (Nat → Int32)) : Option (Int64 × Int32 × Int32 × Int64 × Nat × (Nat → Int64) × (Nat → Int32) × (Nat → Int32) × Int32 × Int32 × Int32 × Int32 × Int64 × Int32 × Nat × (Nat → Int32) × (Nat → Int32) × (Nat → Int64) × Nat × (Nat → Int32) × (Nat → Int32)) :=
  match m_forget with
  | (fo1_6, nd1_6, lo1_6) =>
    match (m_line wh wv 0 0 0) with
    | (wh1_17, wv1_17, wa1_17) =>
      m_solve_L nv nc mt mf wt 2048 hp bo su ss av re gh gv fo1_6 bv bc nd1_6 lo1_6 lh lw lb wa1_17 wh1_17 wv1_17
set_option maxHeartbeats 4000000 in
set_option maxRecDepth 100000 in
theorem k_solve (l : Launch) (dC : Nat → ClassId) (dI : Nat → Nat → Nat) (cI cL cZ : ClassId) (ad : Nat → Nat) (hinj : xI ad 12) (co : Int32) (nv : Nat) (nc : Nat) (mt : (Nat → Int32)) (mf : (Nat → Int32)) (wt : (Nat → Int32)) (hp : Int32) (bo : Int64) (su : Nat) (ss : (Nat → Int64)) (av : (Nat → Int32)) (re : (Nat → Int32)) (gh : Int32) (gv : Int32) (fo : Int32) (bv : Int32) (bc : Int64) (nd : Int32) (lo : Nat) (lh : (Nat → Int32)) (lw : (Nat → Int32)) (lb : (Nat → Int64)) (wa : Nat) (wh : (Nat → Int32)) (wv : (Nat → Int32)) (hnc : nc ≤ 40) (hnv : nv ≤ 10) (hsome : ∃ z, m_solve nv nc mt mf wt hp bo su ss av re gh gv fo bv bc nd lo lh lw lb wa wh wv = some z) : Met l yX4_solve wsX4_solve ({ frames := 6, cells := 0, slots := 0, locals := 145 }) (va_Pc [.ref (ad 0)] (fun U => va_P (dC, dI) vwCl [(ad 0, .inr (4, [.int co, .int (nI nv), .int (nI nc), .ref (ad 1), .ref (ad 2), .ref (ad 3), .int hp, .long bo, .int (nI su), .ref (ad 4), .ref (ad 5), .ref (ad 6), .int gh, .int gv, .int fo, .int bv, .long bc, .int nd, .int (nI lo), .ref (ad 7), .ref (ad 8), .ref (ad 9), .int (nI wa), .ref (ad 10), .ref (ad 11)])), (ad 1, .inl (cI, 40, .inl mt)), (ad 2, .inl (cI, 40, .inl mf)), (ad 3, .inl (cI, 40, .inl wt)), (ad 4, .inl (cL, 40, .inr (.inl ss))), (ad 5, .inl (cZ, 40, .inl av)), (ad 6, .inl (cI, 10, .inl re)), (ad 7, .inl (cI, 1024, .inl lh)), (ad 8, .inl (cI, 1024, .inl lw)), (ad 9, .inl (cL, 1024, .inr (.inl lb))), (ad 10, .inl (cI, 24, .inl wh)), (ad 11, .inl (cI, 24, .inl wv))] U.heap ∧ va_K (dC, dI) vwCl [(cI, .int), (cL, .long), (cZ, .boolean)] U)) (va_Ql (fun r u => m_solve nv nc mt mf wt hp bo su ss av re gh gv fo bv bc nd lo lh lw lb wa wh wv = some (r, u)) (xB (dC, dI) vwCl (fun (u : Int32 × Int32 × Int64 × Nat × (Nat → Int64) × (Nat → Int32) × (Nat → Int32) × Int32 × Int32 × Int32 × Int32 × Int64 × Int32 × Nat × (Nat → Int32) × (Nat → Int32) × (Nat → Int64) × Nat × (Nat → Int32) × (Nat → Int32)) => match u with | (co1, hp1, bo1, su1, ss1, av1, re1, gh1, gv1, fo1, bv1, bc1, nd1, lo1, lh1, lw1, lb1, wa1, wh1, wv1) => [(ad 0, .inr (4, [.int co1, .int (nI nv), .int (nI nc), .ref (ad 1), .ref (ad 2), .ref (ad 3), .int hp1, .long bo1, .int (nI su1), .ref (ad 4), .ref (ad 5), .ref (ad 6), .int gh1, .int gv1, .int fo1, .int bv1, .long bc1, .int nd1, .int (nI lo1), .ref (ad 7), .ref (ad 8), .ref (ad 9), .int (nI wa1), .ref (ad 10), .ref (ad 11)])), (ad 1, .inl (cI, 40, .inl mt)), (ad 2, .inl (cI, 40, .inl mf)), (ad 3, .inl (cI, 40, .inl wt)), (ad 4, .inl (cL, 40, .inr (.inl ss1))), (ad 5, .inl (cZ, 40, .inl av1)), (ad 6, .inl (cI, 10, .inl re1)), (ad 7, .inl (cI, 1024, .inl lh1)), (ad 8, .inl (cI, 1024, .inl lw1)), (ad 9, .inl (cL, 1024, .inr (.inl lb1))), (ad 10, .inl (cI, 24, .inl wh1)), (ad 11, .inl (cI, 24, .inl wv1))])) (xA ad [0, 1, 2, 3, 4, 5, 6, 7, 8, 9, 10, 11])) 0 0 (xA ad [0, 1, 2, 3, 4, 5, 6, 7, 8, 9, 10, 11]) := by
  refine Met.ofW (cc := cX4_solve) (maxL := 1) (ret := (some .long)) (by decide) rfl ?_
  intro p e s m args below meth c s₁ B hml hvv
  obtain ⟨rfl, hP0, hK⟩ := hvv
  have hx := B.exec
  have hb := B.bytes
  have hr := B.returns
  have hts := atoms_spec (ws := wsX4_solve) B.pre
  have hown : s.vm.findClass RX4 = some m.cls := findClass_of_methodNamed B.named
  have hlocks := B.notSynchronized
  have hw0 : (.fieldLink RX4 49 "WeightedClausesModel" "code" "I" : Cond).before _ s = true := hts _ (List.mem_cons_of_mem _ wd_530)
  have hw1 : (.fieldLink RX4 141 "WeightedClausesModel" "waiting" "I" : Cond).before _ s = true := hts _ (List.mem_cons_of_mem _ wd_552)
  have hw2 : (.fieldLink RX4 52 "WeightedClausesModel" "found" "Z" : Cond).before _ s = true := hts _ (List.mem_cons_of_mem _ wd_544)
  have hw3 : (.constantLong RX4 95 (-2) : Cond).before _ s = true := hts _ (List.mem_cons_of_mem _ wd_666)
  have hw4 : (.fieldLink RX4 144 "WeightedClausesModel" "bestCost" "J" : Cond).before _ s = true := hts _ (List.mem_cons_of_mem _ wd_546)
  have hw5 : (.fieldLink RX4 39 "WeightedClausesModel" "waitHave" "[I" : Cond).before _ s = true := hts _ (List.mem_cons_of_mem _ wd_553)
  have hw6 : (.fieldLink RX4 42 "WeightedClausesModel" "waitValues" "[I" : Cond).before _ s = true := hts _ (List.mem_cons_of_mem _ wd_554)
  have hP : va_P (dC, dI) vwCl [(ad 0, .inr (4, [.int co, .int (nI nv), .int (nI nc), .ref (ad 1), .ref (ad 2), .ref (ad 3), .int hp, .long bo, .int (nI su), .ref (ad 4), .ref (ad 5), .ref (ad 6), .int gh, .int gv, .int fo, .int bv, .long bc, .int nd, .int (nI lo), .ref (ad 7), .ref (ad 8), .ref (ad 9), .int (nI wa), .ref (ad 10), .ref (ad 11)])), (ad 1, .inl (cI, 40, .inl mt)), (ad 2, .inl (cI, 40, .inl mf)), (ad 3, .inl (cI, 40, .inl wt)), (ad 4, .inl (cL, 40, .inr (.inl ss))), (ad 5, .inl (cZ, 40, .inl av)), (ad 6, .inl (cI, 10, .inl re)), (ad 7, .inl (cI, 1024, .inl lh)), (ad 8, .inl (cI, 1024, .inl lw)), (ad 9, .inl (cL, 1024, .inr (.inl lb))), (ad 10, .inl (cI, 24, .inl wh)), (ad 11, .inl (cI, 24, .inl wv))] s.heap := hP0.sub [0, 1, 2, 3, 4, 5, 6, 7, 8, 9, 10, 11] rfl
  have hS : va_S (xA ad [0, 1, 2, 3, 4, 5, 6, 7, 8, 9, 10, 11]) s.heap s.heap [] := va_S.rf
  have hl := lv_entry [.ref (ad 0)] (n := 1) (Nat.le_of_ble_eq_true rfl)
  rw [lg_entry_eq]
  generalize (lg_sl [.ref (ad 0)] ++ List.replicate (1 - (lg_sl [.ref (ad 0)]).length) Slot.unset).toArray = ls at hl ⊢
  have hl : lv_has ls 1 [(0, .ref (ad 0))] := hl
  have hF := Eq.refl (m_solve nv nc mt mf wt hp bo su ss av re gh gv fo bv bc nd lo lh lw lb wa wh wv)
  conv at hF => rhs; unfold m_solve
  refine lv_aload_n hx hb dX4_solve_0 rfl (lv_at hl 0 rfl) ?_
  refine lv_iconst (v := 0) hx hb dX4_solve_1 (by decide) ?_
  refine va_put (D := (dC, dI)) (ci := 4) (v := .int 0) (ty := .int) (C := RX4) (T := TX4) (N := 25) hx hb hts (xcons inX4) tyX4 tyX4_ok nX4 hown hK hP (xD hinj [0, 1, 2, 3, 4, 5, 6, 7, 8, 9, 10, 11] rfl (by decide) (by decide)) hS 0 rfl rfl 0 (by decide) hw0 (fun _ h9 => h9) rfl (by decide +kernel) rfl rfl (Nat.le_of_ble_eq_true rfl) dX4_solve_2 (fun H locs hP _ hS => ?_)
  have hP : va_P (dC, dI) vwCl [(ad 0, .inr (4, [.int 0, .int (nI nv), .int (nI nc), .ref (ad 1), .ref (ad 2), .ref (ad 3), .int hp, .long bo, .int (nI su), .ref (ad 4), .ref (ad 5), .ref (ad 6), .int gh, .int gv, .int fo, .int bv, .long bc, .int nd, .int (nI lo), .ref (ad 7), .ref (ad 8), .ref (ad 9), .int (nI wa), .ref (ad 10), .ref (ad 11)])), (ad 1, .inl (cI, 40, .inl mt)), (ad 2, .inl (cI, 40, .inl mf)), (ad 3, .inl (cI, 40, .inl wt)), (ad 4, .inl (cL, 40, .inr (.inl ss))), (ad 5, .inl (cZ, 40, .inl av)), (ad 6, .inl (cI, 10, .inl re)), (ad 7, .inl (cI, 1024, .inl lh)), (ad 8, .inl (cI, 1024, .inl lw)), (ad 9, .inl (cL, 1024, .inr (.inl lb))), (ad 10, .inl (cI, 24, .inl wh)), (ad 11, .inl (cI, 24, .inl wv))] H := hP
  refine lv_aload_n hx hb dX4_solve_5 rfl (lv_at hl 0 rfl) ?_
  refine xrw_v (va_runV (As := []) (rest := []) ⟨hx, hb, hml, hown, hts⟩ (k_forget l dC dI cI cL cZ ad hinj 0 nv nc mt mf wt hp bo su ss av re gh gv fo bv bc nd lo lh lw lb wa wh wv) (xcwV 0 hts wd_633 wd_39 wd_630 wd_632 wd_18 rfl rfl (by decide +kernel) ⟨Nat.le_of_ble_eq_true rfl, Nat.le_of_ble_eq_true rfl⟩) (xpreV (va_recv hK hP rfl (q0 := 0) rfl) hP hK) rfl rfl hl.1 rfl (lv_room (Nat.le_of_ble_eq_true rfl)) dX4_solve_6 ⟨Nat.le_of_ble_eq_true rfl, Nat.le_of_ble_eq_true rfl⟩) hS (xAsub (by decide)) (fun u H locs h1 hB hk hS => ?_)
  obtain ⟨fo1_6, nd1_6, lo1_6⟩ := u
  have hP : va_P (dC, dI) vwCl [(ad 0, .inr (4, [.int 0, .int (nI nv), .int (nI nc), .ref (ad 1), .ref (ad 2), .ref (ad 3), .int hp, .long bo, .int (nI su), .ref (ad 4), .ref (ad 5), .ref (ad 6), .int gh, .int gv, .int fo1_6, .int bv, .long bc, .int nd1_6, .int (nI lo1_6), .ref (ad 7), .ref (ad 8), .ref (ad 9), .int (nI wa), .ref (ad 10), .ref (ad 11)])), (ad 1, .inl (cI, 40, .inl mt)), (ad 2, .inl (cI, 40, .inl mf)), (ad 3, .inl (cI, 40, .inl wt)), (ad 4, .inl (cL, 40, .inr (.inl ss))), (ad 5, .inl (cZ, 40, .inl av)), (ad 6, .inl (cI, 10, .inl re)), (ad 7, .inl (cI, 1024, .inl lh)), (ad 8, .inl (cI, 1024, .inl lw)), (ad 9, .inl (cL, 1024, .inr (.inl lb))), (ad 10, .inl (cI, 24, .inl wh)), (ad 11, .inl (cI, 24, .inl wv))] H := va_P.sub hB [0, 1, 2, 3, 4, 5, 6, 7, 8, 9, 10, 11] rfl
  rw [h1] at hF
  try dsimp only at hF
  refine lv_aload_n hx hb dX4_solve_9 rfl (lv_at hl 0 rfl) ?_
  refine lv_iconst (v := 0) hx hb dX4_solve_10 (by decide) ?_
  refine va_put (D := (dC, dI)) (ci := 4) (v := .int 0) (ty := .int) (C := RX4) (T := TX4) (N := 25) hx hb hts (xcons inX4) tyX4 tyX4_ok nX4 hown hK hP (xD hinj [0, 1, 2, 3, 4, 5, 6, 7, 8, 9, 10, 11] rfl (by decide) (by decide)) hS 0 rfl rfl 22 (by decide) hw1 (fun _ h9 => h9) rfl (by decide +kernel) rfl rfl (Nat.le_of_ble_eq_true rfl) dX4_solve_11 (fun H locs hP _ hS => ?_)
  have hP : va_P (dC, dI) vwCl [(ad 0, .inr (4, [.int 0, .int (nI nv), .int (nI nc), .ref (ad 1), .ref (ad 2), .ref (ad 3), .int hp, .long bo, .int (nI su), .ref (ad 4), .ref (ad 5), .ref (ad 6), .int gh, .int gv, .int fo1_6, .int bv, .long bc, .int nd1_6, .int (nI lo1_6), .ref (ad 7), .ref (ad 8), .ref (ad 9), .int 0, .ref (ad 10), .ref (ad 11)])), (ad 1, .inl (cI, 40, .inl mt)), (ad 2, .inl (cI, 40, .inl mf)), (ad 3, .inl (cI, 40, .inl wt)), (ad 4, .inl (cL, 40, .inr (.inl ss))), (ad 5, .inl (cZ, 40, .inl av)), (ad 6, .inl (cI, 10, .inl re)), (ad 7, .inl (cI, 1024, .inl lh)), (ad 8, .inl (cI, 1024, .inl lw)), (ad 9, .inl (cL, 1024, .inr (.inl lb))), (ad 10, .inl (cI, 24, .inl wh)), (ad 11, .inl (cI, 24, .inl wv))] H := hP
  refine lv_aload_n hx hb dX4_solve_14 rfl (lv_at hl 0 rfl) ?_
  refine lv_iconst (v := 0) hx hb dX4_solve_15 (by decide) ?_
  refine lv_iconst (v := 0) hx hb dX4_solve_16 (by decide) ?_
  refine xrw_v (va_runV (As := [.int 0, .int 0]) (rest := []) ⟨hx, hb, hml, hown, hts⟩ (k_line l dC dI cI cL cZ ad hinj 0 nv nc mt mf wt hp bo su ss av re gh gv fo1_6 bv bc nd1_6 lo1_6 lh lw lb 0 wh wv (by omega) 0 0) (xcwV 2 hts wd_718 wd_39 wd_715 wd_717 wd_31 rfl rfl (by decide +kernel) ⟨Nat.le_of_ble_eq_true rfl, Nat.le_of_ble_eq_true rfl⟩) (xpreV (va_recv hK hP rfl (q0 := 0) rfl) hP hK) rfl rfl hl.1 rfl (lv_room (Nat.le_of_ble_eq_true rfl)) dX4_solve_17 ⟨Nat.le_of_ble_eq_true rfl, Nat.le_of_ble_eq_true rfl⟩) hS (xAsub (by decide)) (fun u H locs h2 hB hk hS => ?_)
  obtain ⟨wh1_17, wv1_17, wa1_17⟩ := u
  have hP : va_P (dC, dI) vwCl [(ad 0, .inr (4, [.int 0, .int (nI nv), .int (nI nc), .ref (ad 1), .ref (ad 2), .ref (ad 3), .int hp, .long bo, .int (nI su), .ref (ad 4), .ref (ad 5), .ref (ad 6), .int gh, .int gv, .int fo1_6, .int bv, .long bc, .int nd1_6, .int (nI lo1_6), .ref (ad 7), .ref (ad 8), .ref (ad 9), .int (nI wa1_17), .ref (ad 10), .ref (ad 11)])), (ad 1, .inl (cI, 40, .inl mt)), (ad 2, .inl (cI, 40, .inl mf)), (ad 3, .inl (cI, 40, .inl wt)), (ad 4, .inl (cL, 40, .inr (.inl ss))), (ad 5, .inl (cZ, 40, .inl av)), (ad 6, .inl (cI, 10, .inl re)), (ad 7, .inl (cI, 1024, .inl lh)), (ad 8, .inl (cI, 1024, .inl lw)), (ad 9, .inl (cL, 1024, .inr (.inl lb))), (ad 10, .inl (cI, 24, .inl wh1_17)), (ad 11, .inl (cI, 24, .inl wv1_17))] H := va_P.sub hB [0, 1, 2, 3, 4, 5, 6, 7, 8, 9, 10, 11] rfl
  rw [h2] at hF
  try dsimp only at hF
  have lp20 : ∀ (n : Nat) (hp2 : Int32) (bo2 : Int64) (su2 : Nat) (ss2 : (Nat → Int64)) (av2 : (Nat → Int32)) (re2 : (Nat → Int32)) (gh2 : Int32) (gv2 : Int32) (fo2 : Int32) (bv2 : Int32) (bc2 : Int64) (nd2 : Int32) (lo2 : Nat) (lh2 : (Nat → Int32)) (lw2 : (Nat → Int32)) (lb2 : (Nat → Int64)) (wa2 : Nat) (wh2 : (Nat → Int32)) (wv2 : (Nat → Int32)) (H : Heap) (locs : List Loc) (ls : Array Slot), m_solve nv nc mt mf wt hp bo su ss av re gh gv fo bv bc nd lo lh lw lb wa wh wv = m_solve_L nv nc mt mf wt n hp2 bo2 su2 ss2 av2 re2 gh2 gv2 fo2 bv2 bc2 nd2 lo2 lh2 lw2 lb2 wa2 wh2 wv2 → va_P (dC, dI) vwCl [(ad 0, .inr (4, [.int 0, .int (nI nv), .int (nI nc), .ref (ad 1), .ref (ad 2), .ref (ad 3), .int hp2, .long bo2, .int (nI su2), .ref (ad 4), .ref (ad 5), .ref (ad 6), .int gh2, .int gv2, .int fo2, .int bv2, .long bc2, .int nd2, .int (nI lo2), .ref (ad 7), .ref (ad 8), .ref (ad 9), .int (nI wa2), .ref (ad 10), .ref (ad 11)])), (ad 1, .inl (cI, 40, .inl mt)), (ad 2, .inl (cI, 40, .inl mf)), (ad 3, .inl (cI, 40, .inl wt)), (ad 4, .inl (cL, 40, .inr (.inl ss2))), (ad 5, .inl (cZ, 40, .inl av2)), (ad 6, .inl (cI, 10, .inl re2)), (ad 7, .inl (cI, 1024, .inl lh2)), (ad 8, .inl (cI, 1024, .inl lw2)), (ad 9, .inl (cL, 1024, .inr (.inl lb2))), (ad 10, .inl (cI, 24, .inl wh2)), (ad 11, .inl (cI, 24, .inl wv2))] H → va_S (xA ad [0, 1, 2, 3, 4, 5, 6, 7, 8, 9, 10, 11]) s.heap H locs → lv_has ls 1 [(0, .ref (ad 0))] → W p l e (headSpec wsX4_solve ({ frames := 6, cells := 0, slots := 0, locals := 145 })).room s m [.ref (ad 0)].toArray below meth c H locs 0 0 (MQ below (va_Ql (fun r u => m_solve nv nc mt mf wt hp bo su ss av re gh gv fo bv bc nd lo lh lw lb wa wh wv = some (r, u)) (xB (dC, dI) vwCl (fun (u : Int32 × Int32 × Int64 × Nat × (Nat → Int64) × (Nat → Int32) × (Nat → Int32) × Int32 × Int32 × Int32 × Int32 × Int64 × Int32 × Nat × (Nat → Int32) × (Nat → Int32) × (Nat → Int64) × Nat × (Nat → Int32) × (Nat → Int32)) => match u with | (co1, hp1, bo1, su1, ss1, av1, re1, gh1, gv1, fo1, bv1, bc1, nd1, lo1, lh1, lw1, lb1, wa1, wh1, wv1) => [(ad 0, .inr (4, [.int co1, .int (nI nv), .int (nI nc), .ref (ad 1), .ref (ad 2), .ref (ad 3), .int hp1, .long bo1, .int (nI su1), .ref (ad 4), .ref (ad 5), .ref (ad 6), .int gh1, .int gv1, .int fo1, .int bv1, .long bc1, .int nd1, .int (nI lo1), .ref (ad 7), .ref (ad 8), .ref (ad 9), .int (nI wa1), .ref (ad 10), .ref (ad 11)])), (ad 1, .inl (cI, 40, .inl mt)), (ad 2, .inl (cI, 40, .inl mf)), (ad 3, .inl (cI, 40, .inl wt)), (ad 4, .inl (cL, 40, .inr (.inl ss1))), (ad 5, .inl (cZ, 40, .inl av1)), (ad 6, .inl (cI, 10, .inl re1)), (ad 7, .inl (cI, 1024, .inl lh1)), (ad 8, .inl (cI, 1024, .inl lw1)), (ad 9, .inl (cL, 1024, .inr (.inl lb1))), (ad 10, .inl (cI, 24, .inl wh1)), (ad 11, .inl (cI, 24, .inl wv1))])) (xA ad [0, 1, 2, 3, 4, 5, 6, 7, 8, 9, 10, 11])) [.ref (ad 0)].toArray s 0 0 (xA ad [0, 1, 2, 3, 4, 5, 6, 7, 8, 9, 10, 11])) (F0 m 20 ls []) := by
    intro n
    induction n with
    | zero =>
      intro hp2 bo2 su2 ss2 av2 re2 gh2 gv2 fo2 bv2 bc2 nd2 lo2 lh2 lw2 lb2 wa2 wh2 wv2 H locs ls hF  hP hS hl
      rw [m_solve_L] at hF
      obtain ⟨z, hz⟩ := hsome
      rw [hz] at hF
      cases hF
    | succ n ih =>
      intro hp2 bo2 su2 ss2 av2 re2 gh2 gv2 fo2 bv2 bc2 nd2 lo2 lh2 lw2 lb2 wa2 wh2 wv2 H locs ls hF  hP hS hl
      rw [m_solve_L] at hF
      refine lv_aload_n hx hb dX4_solve_20 rfl (lv_at hl 0 rfl) ?_
      refine va_get (D := (dC, dI)) (ci := 4) (v := .int (nI wa2)) (C := RX4) (T := TX4) (N := 25) hx hb hts (xcons inX4) hown hK hP 0 rfl rfl 22 (by decide) hw1 (fun _ h9 => h9) rfl dX4_solve_21 ?_
      refine lv_if_le (tgt := 62) hx hb dX4_solve_24 (by decide) (fun h3 => ?_) (fun h3 => ?_)
      · have hF := hF.trans (if_pos h3)
        refine lv_aload_n hx hb dX4_solve_62 rfl (lv_at hl 0 rfl) ?_
        refine va_get (D := (dC, dI)) (ci := 4) (v := .int fo2) (C := RX4) (T := TX4) (N := 25) hx hb hts (xcons inX4) hown hK hP 0 rfl rfl 14 (by decide) hw2 (fun _ h9 => h9) rfl dX4_solve_63 ?_
        refine lv_if_eq (tgt := 76) hx hb dX4_solve_66 (by decide) (fun h4 => ?_) (fun h4 => ?_)
        · have hF := hF.trans (if_pos h4)
          refine lv_ldc2 hx hb hown hw3 dX4_solve_76 ?_
          exact W.lret (v := (-2)) hx hb hr (fun t ht hW => ⟨⟨_, (0, hp2, bo2, su2, ss2, av2, re2, gh2, gv2, fo2, bv2, bc2, nd2, lo2, lh2, lw2, lb2, wa2, wh2, wv2), rfl, hF, xBi ht hP⟩, hS.F ht⟩) hS.2.2 dX4_solve_79
        · have hF := hF.trans (if_neg h4)
          refine lv_aload_n hx hb dX4_solve_69 rfl (lv_at hl 0 rfl) ?_
          refine va_get (D := (dC, dI)) (ci := 4) (v := .long bc2) (C := RX4) (T := TX4) (N := 25) hx hb hts (xcons inX4) hown hK hP 0 rfl rfl 16 (by decide) hw4 (fun _ h9 => h9) rfl dX4_solve_70 ?_
          refine lv_goto (tgt := 79) hx hb dX4_solve_73 (by decide) ?_
          exact W.lret (v := bc2) hx hb hr (fun t ht hW => ⟨⟨_, (0, hp2, bo2, su2, ss2, av2, re2, gh2, gv2, fo2, bv2, bc2, nd2, lo2, lh2, lw2, lb2, wa2, wh2, wv2), rfl, hF, xBi ht hP⟩, hS.F ht⟩) hS.2.2 dX4_solve_79
      · have hF := hF.trans (if_neg h3)
        have hpos := xpos h3
        by_cases h5 : wa2 < 25
        case neg =>
          have hF := hF.trans (if_neg h5)
          obtain ⟨z, hz⟩ := hsome
          rw [hz] at hF
          cases hF
        have hF := hF.trans (if_pos h5)
        refine lv_aload_n hx hb dX4_solve_27 rfl (lv_at hl 0 rfl) ?_
        refine lv_dup hx hb dX4_solve_28 rfl ?_
        refine va_get (D := (dC, dI)) (ci := 4) (v := .int (nI wa2)) (C := RX4) (T := TX4) (N := 25) hx hb hts (xcons inX4) hown hK hP 0 rfl rfl 22 (by decide) hw1 (fun _ h9 => h9) rfl dX4_solve_29 ?_
        refine lv_iconst (v := 1) hx hb dX4_solve_32 (by decide) ?_
        refine xr_subp (by omega) hx hb dX4_solve_33 ?_
        refine va_put (D := (dC, dI)) (ci := 4) (v := .int (nI (wa2 - 1))) (ty := .int) (C := RX4) (T := TX4) (N := 25) hx hb hts (xcons inX4) tyX4 tyX4_ok nX4 hown hK hP (xD hinj [0, 1, 2, 3, 4, 5, 6, 7, 8, 9, 10, 11] rfl (by decide) (by decide)) hS 0 rfl rfl 22 (by decide) hw1 (fun _ h9 => h9) rfl (by decide +kernel) rfl rfl (Nat.le_of_ble_eq_true rfl) dX4_solve_34 (fun H locs hP _ hS => ?_)
        have hP : va_P (dC, dI) vwCl [(ad 0, .inr (4, [.int 0, .int (nI nv), .int (nI nc), .ref (ad 1), .ref (ad 2), .ref (ad 3), .int hp2, .long bo2, .int (nI su2), .ref (ad 4), .ref (ad 5), .ref (ad 6), .int gh2, .int gv2, .int fo2, .int bv2, .long bc2, .int nd2, .int (nI lo2), .ref (ad 7), .ref (ad 8), .ref (ad 9), .int (nI (wa2 - 1)), .ref (ad 10), .ref (ad 11)])), (ad 1, .inl (cI, 40, .inl mt)), (ad 2, .inl (cI, 40, .inl mf)), (ad 3, .inl (cI, 40, .inl wt)), (ad 4, .inl (cL, 40, .inr (.inl ss2))), (ad 5, .inl (cZ, 40, .inl av2)), (ad 6, .inl (cI, 10, .inl re2)), (ad 7, .inl (cI, 1024, .inl lh2)), (ad 8, .inl (cI, 1024, .inl lw2)), (ad 9, .inl (cL, 1024, .inr (.inl lb2))), (ad 10, .inl (cI, 24, .inl wh2)), (ad 11, .inl (cI, 24, .inl wv2))] H := hP
        refine lv_aload_n hx hb dX4_solve_37 rfl (lv_at hl 0 rfl) ?_
        refine lv_aload_n hx hb dX4_solve_38 rfl (lv_at hl 0 rfl) ?_
        refine va_get (D := (dC, dI)) (ci := 4) (v := .ref (ad 10)) (C := RX4) (T := TX4) (N := 25) hx hb hts (xcons inX4) hown hK hP 0 rfl rfl 23 (by decide) hw5 (fun _ h9 => h9) rfl dX4_solve_39 ?_
        refine lv_aload_n hx hb dX4_solve_42 rfl (lv_at hl 0 rfl) ?_
        refine va_get (D := (dC, dI)) (ci := 4) (v := .int (nI (wa2 - 1))) (C := RX4) (T := TX4) (N := 25) hx hb hts (xcons inX4) hown hK hP 0 rfl rfl 22 (by decide) hw1 (fun _ h9 => h9) rfl dX4_solve_43 ?_
        refine xr_iald hx hb hK hP 10 0 rfl rfl (wa2 - 1) (by omega) (by omega) dX4_solve_46 ?_
        refine lv_aload_n hx hb dX4_solve_47 rfl (lv_at hl 0 rfl) ?_
        refine va_get (D := (dC, dI)) (ci := 4) (v := .ref (ad 11)) (C := RX4) (T := TX4) (N := 25) hx hb hts (xcons inX4) hown hK hP 0 rfl rfl 24 (by decide) hw6 (fun _ h9 => h9) rfl dX4_solve_48 ?_
        refine lv_aload_n hx hb dX4_solve_51 rfl (lv_at hl 0 rfl) ?_
        refine va_get (D := (dC, dI)) (ci := 4) (v := .int (nI (wa2 - 1))) (C := RX4) (T := TX4) (N := 25) hx hb hts (xcons inX4) hown hK hP 0 rfl rfl 22 (by decide) hw1 (fun _ h9 => h9) rfl dX4_solve_52 ?_
        refine xr_iald hx hb hK hP 11 0 rfl rfl (wa2 - 1) (by omega) (by omega) dX4_solve_55 ?_
        have hs56 : ∃ z, (m_node nv nc mt mf wt hp2 bo2 su2 ss2 av2 re2 gh2 gv2 fo2 bv2 bc2 nd2 lo2 lh2 lw2 lb2 (wa2 - 1) wh2 wv2 (wh2 (wa2 - 1)) (wv2 (wa2 - 1))) = some z := by
          cases hq : (m_node nv nc mt mf wt hp2 bo2 su2 ss2 av2 re2 gh2 gv2 fo2 bv2 bc2 nd2 lo2 lh2 lw2 lb2 (wa2 - 1) wh2 wv2 (wh2 (wa2 - 1)) (wv2 (wa2 - 1))) with
          | none => rw [hq] at hF; obtain ⟨z, hz⟩ := hsome; rw [hz] at hF; cases hF
          | some z => exact ⟨z, rfl⟩
        refine xrw_v (va_runV (As := [.int (wh2 (wa2 - 1)), .int (wv2 (wa2 - 1))]) (rest := []) ⟨hx, hb, hml, hown, hts⟩ (k_node l dC dI cI cL cZ ad hinj 0 nv nc mt mf wt hp2 bo2 su2 ss2 av2 re2 gh2 gv2 fo2 bv2 bc2 nd2 lo2 lh2 lw2 lb2 (wa2 - 1) wh2 wv2 (by omega) (by omega) (wh2 (wa2 - 1)) (wv2 (wa2 - 1)) hs56) (xcwV 2 hts wd_722 wd_39 wd_719 wd_721 wd_32 rfl rfl (by decide +kernel) ⟨Nat.le_of_ble_eq_true rfl, Nat.le_of_ble_eq_true rfl⟩) (xpreV (va_recv hK hP rfl (q0 := 0) rfl) hP hK) rfl rfl hl.1 rfl (lv_room (Nat.le_of_ble_eq_true rfl)) dX4_solve_56 ⟨Nat.le_of_ble_eq_true rfl, Nat.le_of_ble_eq_true rfl⟩) hS (xAsub (by decide)) (fun u H locs h6 hB hk hS => ?_)
        obtain ⟨hp1_56, bo1_56, su1_56, ss1_56, av1_56, re1_56, gh1_56, gv1_56, fo1_56, bv1_56, bc1_56, nd1_56, lo1_56, lh1_56, lw1_56, lb1_56, wa1_56, wh1_56, wv1_56⟩ := u
        have hP : va_P (dC, dI) vwCl [(ad 0, .inr (4, [.int 0, .int (nI nv), .int (nI nc), .ref (ad 1), .ref (ad 2), .ref (ad 3), .int hp1_56, .long bo1_56, .int (nI su1_56), .ref (ad 4), .ref (ad 5), .ref (ad 6), .int gh1_56, .int gv1_56, .int fo1_56, .int bv1_56, .long bc1_56, .int nd1_56, .int (nI lo1_56), .ref (ad 7), .ref (ad 8), .ref (ad 9), .int (nI wa1_56), .ref (ad 10), .ref (ad 11)])), (ad 1, .inl (cI, 40, .inl mt)), (ad 2, .inl (cI, 40, .inl mf)), (ad 3, .inl (cI, 40, .inl wt)), (ad 4, .inl (cL, 40, .inr (.inl ss1_56))), (ad 5, .inl (cZ, 40, .inl av1_56)), (ad 6, .inl (cI, 10, .inl re1_56)), (ad 7, .inl (cI, 1024, .inl lh1_56)), (ad 8, .inl (cI, 1024, .inl lw1_56)), (ad 9, .inl (cL, 1024, .inr (.inl lb1_56))), (ad 10, .inl (cI, 24, .inl wh1_56)), (ad 11, .inl (cI, 24, .inl wv1_56))] H := va_P.sub hB [0, 1, 2, 3, 4, 5, 6, 7, 8, 9, 10, 11] rfl
        rw [h6] at hF
        try dsimp only at hF
        refine lv_goto (tgt := 20) hx hb dX4_solve_59 (by decide) ?_
        exact ih hp1_56 bo1_56 su1_56 ss1_56 av1_56 re1_56 gh1_56 gv1_56 fo1_56 bv1_56 bc1_56 nd1_56 lo1_56 lh1_56 lw1_56 lb1_56 wa1_56 wh1_56 wv1_56 _ _ _ hF  hP hS (lv_sub hl [0] rfl)
  exact lp20 2048 hp bo su ss av re gh gv fo1_6 bv bc nd1_6 lo1_6 lh lw lb wa1_17 wh1_17 wv1_17 _ _ _ hF  hP hS (lv_sub hl [0] rfl)
