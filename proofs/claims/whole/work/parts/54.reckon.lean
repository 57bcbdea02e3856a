def m_reckon_A (mt mf : Nat → Int32) (hv vl : Int32) : Nat → Nat → (Nat → Int32) → (Nat → Int32)
  | 0, i, av2 =>
    av2
  | n + 1, i, av2 =>
    m_reckon_A mt mf hv vl n (i + 1) (upd av2 i (vp_nar .boolean (m_isOpen mt mf i hv vl)))
def m_reckon_B (wt : Nat → Int32) (set : Int64) : Nat → Nat → Int32 → (Nat → Int32) → Int32 × (Nat → Int32)
  | 0, i, le3, av3 =>
    (le3, av3)
  | n + 1, i, le3, av3 =>
    if (lg_cmp ((set >>> ((nI i).toInt64 &&& 63)) &&& 1) 1) = 0 then
      if (wt i) ≤ 0 then
        m_reckon_B wt set n (i + 1) le3 (upd av3 i (vp_nar .boolean 0))
      else
        if le3 = 0 then
          m_reckon_B wt set n (i + 1) (wt i) (upd av3 i (vp_nar .boolean 0))
        else
          if le3 ≤ (wt i) then
            m_reckon_B wt set n (i + 1) le3 (upd av3 i (vp_nar .boolean 0))
          else
            m_reckon_B wt set n (i + 1) (wt i) (upd av3 i (vp_nar .boolean 0))
    else
      m_reckon_B wt set n (i + 1) le3 av3
def m_reckon_L (nv nc : Nat) (mt mf wt : Nat → Int32) (hv vl : Int32) : Nat → Int32 → Int32 → Int64 → Nat → (Nat → Int64) → (Nat → Int32) → (Nat → Int32) → Int32 → Int32 → Option (Int32 × Int64 × Nat × (Nat → Int64) × (Nat → Int32) × (Nat → Int32) × Int32 × Int32)
  | 0, mo, hp2, bo2, su2, ss2, av2, re2, gh2, gv2 =>
    none
  | n + 1, mo, hp2, bo2, su2, ss2, av2, re2, gh2, gv2 =>
    if mo = 0 then
      some (hp2, bo2, su2, ss2, av2, re2, gh2, gv2)
    else
      match (m_grow nv nc mt mf av2 re2 hv vl) with
      | some (r_74, gh1_74, gv1_74, re1_74) =>
        if r_74 < 0 then
          m_reckon_L nv nc mt mf wt hv vl n 0 hp2 bo2 su2 ss2 av2 re1_74 gh1_74 gv1_74
        else
          match (m_gather nv nc mt mf re1_74 r_74) with
          | some r_97 =>
            if su2 < 40 then
              match m_reckon_B wt r_97 nc 0 0 av2 with
              | (le3b, av3b) =>
                if le3b = 0 then
                  m_reckon_L nv nc mt mf wt hv vl n 0 1 (bo2 + le3b.toInt64) (su2 + 1) (vp_updL ss2 su2 r_97) av3b re1_74 gh1_74 gv1_74
                else
                  m_reckon_L nv nc mt mf wt hv vl n 1 0 (bo2 + le3b.toInt64) (su2 + 1) (vp_updL ss2 su2 r_97) av3b re1_74 gh1_74 gv1_74
            else
              none
          | none => none
      | none => none
def m_reckon (nv nc : Nat) (mt mf wt : Nat → Int32) (hp : Int32) (bo : Int64) (su : Nat) (ss : (Nat → Int64)) (av : (Nat → Int32)) (re : (Nat → Int32)) (gh : Int32) (gv : Int32) (hv vl : Int32) : Option (Int32 × Int64 × Nat × (Nat → Int64) × (Nat → Int32) × (Nat → Int32) × Int32 × Int32) :=
  match m_reckon_A mt mf hv vl nc 0 av with
  | av2a =>
    m_reckon_L nv nc mt mf wt hv vl 42 ((if (m_breaks nc mt mf wt hv vl) = 0 then 1 else 0) : Int32) (m_breaks nc mt mf wt hv vl) (m_costOf nc mt mf wt hv vl) 0 ss av2a re gh gv
set_option maxHeartbeats 4000000 in
set_option maxRecDepth 100000 in
theorem k_reckon (l : Launch) (dC : Nat → ClassId) (dI : Nat → Nat → Nat) (cI cL cZ : ClassId) (ad : Nat → Nat) (hinj : xI ad 12) (co : Int32) (nv : Nat) (nc : Nat) (mt : (Nat → Int32)) (mf : (Nat → Int32)) (wt : (Nat → Int32)) (hp : Int32) (bo : Int64) (su : Nat) (ss : (Nat → Int64)) (av : (Nat → Int32)) (re : (Nat → Int32)) (gh : Int32) (gv : Int32) (fo : Int32) (bv : Int32) (bc : Int64) (nd : Int32) (lo : Nat) (lh : (Nat → Int32)) (lw : (Nat → Int32)) (lb : (Nat → Int64)) (wa : Nat) (wh : (Nat → Int32)) (wv : (Nat → Int32)) (hnc : nc ≤ 40) (hnv : nv ≤ 10) (hv vl : Int32) (hsome : ∃ z, m_reckon nv nc mt mf wt hp bo su ss av re gh gv hv vl = some z) : Met l yX4_reckon wsX4_reckon ({ frames := 4, cells := 0, slots := 0, locals := 93 }) (va_Pc [.ref (ad 0), .int hv, .int vl] (fun U => va_P (dC, dI) vwCl [(ad 0, .inr (4, [.int co, .int (nI nv), .int (nI nc), .ref (ad 1), .ref (ad 2), .ref (ad 3), .int hp, .long bo, .int (nI su), .ref (ad 4), .ref (ad 5), .ref (ad 6), .int gh, .int gv, .int fo, .int bv, .long bc, .int nd, .int (nI lo), .ref (ad 7), .ref (ad 8), .ref (ad 9), .int (nI wa), .ref (ad 10), .ref (ad 11)])), (ad 1, .inl (cI, 40, .inl mt)), (ad 2, .inl (cI, 40, .inl mf)), (ad 3, .inl (cI, 40, .inl wt)), (ad 4, .inl (cL, 40, .inr (.inl ss))), (ad 5, .inl (cZ, 40, .inl av)), (ad 6, .inl (cI, 10, .inl re)), (ad 7, .inl (cI, 1024, .inl lh)), (ad 8, .inl (cI, 1024, .inl lw)), (ad 9, .inl (cL, 1024, .inr (.inl lb))), (ad 10, .inl (cI, 24, .inl wh)), (ad 11, .inl (cI, 24, .inl wv))] U.heap ∧ va_K (dC, dI) vwCl [(cI, .int), (cL, .long), (cZ, .boolean)] U)) (va_Qv (fun u => m_reckon nv nc mt mf wt hp bo su ss av re gh gv hv vl = some u) (xB (dC, dI) vwCl (fun (u : Int32 × Int64 × Nat × (Nat → Int64) × (Nat → Int32) × (Nat → Int32) × Int32 × Int32) => match u with | (hp1, bo1, su1, ss1, av1, re1, gh1, gv1) => [(ad 0, .inr (4, [.int co, .int (nI nv), .int (nI nc), .ref (ad 1), .ref (ad 2), .ref (ad 3), .int hp1, .long bo1, .int (nI su1), .ref (ad 4), .ref (ad 5), .ref (ad 6), .int gh1, .int gv1, .int fo, .int bv, .long bc, .int nd, .int (nI lo), .ref (ad 7), .ref (ad 8), .ref (ad 9), .int (nI wa), .ref (ad 10), .ref (ad 11)])), (ad 1, .inl (cI, 40, .inl mt)), (ad 2, .inl (cI, 40, .inl mf)), (ad 3, .inl (cI, 40, .inl wt)), (ad 4, .inl (cL, 40, .inr (.inl ss1))), (ad 5, .inl (cZ, 40, .inl av1)), (ad 6, .inl (cI, 10, .inl re1)), (ad 7, .inl (cI, 1024, .inl lh)), (ad 8, .inl (cI, 1024, .inl lw)), (ad 9, .inl (cL, 1024, .inr (.inl lb))), (ad 10, .inl (cI, 24, .inl wh)), (ad 11, .inl (cI, 24, .inl wv))])) (xA ad [0, 1, 2, 3, 4, 5, 6, 7, 8, 9, 10, 11])) 0 0 (xA ad [0, 1, 2, 3, 4, 5, 6, 7, 8, 9, 10, 11]) := by
  refine Met.ofW (cc := cX4_reckon) (maxL := 9) (ret := none) (by decide) rfl ?_
  intro p e s m args below meth c s₁ B hml hvv
  obtain ⟨rfl, hP0, hK⟩ := hvv
  have hx := B.exec
  have hb := B.bytes
  have hr := B.returns
  have hts := atoms_spec (ws := wsX4_reckon) B.pre
  have hown : s.vm.findClass RX4 = some m.cls := findClass_of_methodNamed B.named
  have hlocks := B.notSynchronized
  have hw0 : (.fieldLink RX4 117 "WeightedClausesModel" "subsets" "I" : Cond).before _ s = true := hts _ (List.mem_cons_of_mem _ wd_538)
  have hw1 : (.fieldLink RX4 120 "WeightedClausesModel" "hopeless" "Z" : Cond).before _ s = true := hts _ (List.mem_cons_of_mem _ wd_536)
  have hw2 : (.fieldLink RX4 123 "WeightedClausesModel" "bound" "J" : Cond).before _ s = true := hts _ (List.mem_cons_of_mem _ wd_537)
  have hw3 : (.fieldLink RX4 75 "WeightedClausesModel" "clauses" "I" : Cond).before _ s = true := hts _ (List.mem_cons_of_mem _ wd_532)
  have hw4 : (.fieldLink RX4 23 "WeightedClausesModel" "available" "[Z" : Cond).before _ s = true := hts _ (List.mem_cons_of_mem _ wd_540)
  have hw5 : (.fieldLink RX4 19 "WeightedClausesModel" "subset" "[J" : Cond).before _ s = true := hts _ (List.mem_cons_of_mem _ wd_539)
  have hw6 : (.fieldLink RX4 16 "WeightedClausesModel" "weights" "[I" : Cond).before _ s = true := hts _ (List.mem_cons_of_mem _ wd_535)
  have hP : va_P (dC, dI) vwCl [(ad 0, .inr (4, [.int co, .int (nI nv), .int (nI nc), .ref (ad 1), .ref (ad 2), .ref (ad 3), .int hp, .long bo, .int (nI su), .ref (ad 4), .ref (ad 5), .ref (ad 6), .int gh, .int gv, .int fo, .int bv, .long bc, .int nd, .int (nI lo), .ref (ad 7), .ref (ad 8), .ref (ad 9), .int (nI wa), .ref (ad 10), .ref (ad 11)])), (ad 1, .inl (cI, 40, .inl mt)), (ad 2, .inl (cI, 40, .inl mf)), (ad 3, .inl (cI, 40, .inl wt)), (ad 4, .inl (cL, 40, .inr (.inl ss))), (ad 5, .inl (cZ, 40, .inl av)), (ad 6, .inl (cI, 10, .inl re)), (ad 7, .inl (cI, 1024, .inl lh)), (ad 8, .inl (cI, 1024, .inl lw)), (ad 9, .inl (cL, 1024, .inr (.inl lb))), (ad 10, .inl (cI, 24, .inl wh)), (ad 11, .inl (cI, 24, .inl wv))] s.heap := hP0.sub [0, 1, 2, 3, 4, 5, 6, 7, 8, 9, 10, 11] rfl
  have hS : va_S (xA ad [0, 1, 2, 3, 4, 5, 6, 7, 8, 9, 10, 11]) s.heap s.heap [] := va_S.rf
  have hl := lv_entry [.ref (ad 0), .int hv, .int vl] (n := 9) (Nat.le_of_ble_eq_true rfl)
  rw [lg_entry_eq]
  generalize (lg_sl [.ref (ad 0), .int hv, .int vl] ++ List.replicate (9 - (lg_sl [.ref (ad 0), .int hv, .int vl]).length) Slot.unset).toArray = ls at hl ⊢
  have hl : lv_has ls 9 [(0, .ref (ad 0)), (1, .int hv), (2, .int vl)] := hl
  have hF := Eq.refl (m_reckon nv nc mt mf wt hp bo su ss av re gh gv hv vl)
  conv at hF => rhs; unfold m_reckon
  refine lv_aload_n hx hb dX4_reckon_0 rfl (lv_at hl 0 rfl) ?_
  refine lv_iconst (v := 0) hx hb dX4_reckon_1 (by decide) ?_
  refine va_put (D := (dC, dI)) (ci := 4) (v := .int 0) (ty := .int) (C := RX4) (T := TX4) (N := 25) hx hb hts (xcons inX4) tyX4 tyX4_ok nX4 hown hK hP (xD hinj [0, 1, 2, 3, 4, 5, 6, 7, 8, 9, 10, 11] rfl (by decide) (by decide)) hS 0 rfl rfl 8 (by decide) hw0 (fun _ h9 => h9) rfl (by decide +kernel) rfl rfl (Nat.le_of_ble_eq_true rfl) dX4_reckon_2 (fun H locs hP _ hS => ?_)
  have hP : va_P (dC, dI) vwCl [(ad 0, .inr (4, [.int co, .int (nI nv), .int (nI nc), .ref (ad 1), .ref (ad 2), .ref (ad 3), .int hp, .long bo, .int 0, .ref (ad 4), .ref (ad 5), .ref (ad 6), .int gh, .int gv, .int fo, .int bv, .long bc, .int nd, .int (nI lo), .ref (ad 7), .ref (ad 8), .ref (ad 9), .int (nI wa), .ref (ad 10), .ref (ad 11)])), (ad 1, .inl (cI, 40, .inl mt)), (ad 2, .inl (cI, 40, .inl mf)), (ad 3, .inl (cI, 40, .inl wt)), (ad 4, .inl (cL, 40, .inr (.inl ss))), (ad 5, .inl (cZ, 40, .inl av)), (ad 6, .inl (cI, 10, .inl re)), (ad 7, .inl (cI, 1024, .inl lh)), (ad 8, .inl (cI, 1024, .inl lw)), (ad 9, .inl (cL, 1024, .inr (.inl lb))), (ad 10, .inl (cI, 24, .inl wh)), (ad 11, .inl (cI, 24, .inl wv))] H := hP
  refine lv_aload_n hx hb dX4_reckon_5 rfl (lv_at hl 0 rfl) ?_
  refine lv_aload_n hx hb dX4_reckon_6 rfl (lv_at hl 0 rfl) ?_
  refine lv_iload_n hx hb dX4_reckon_7 rfl (lv_at hl 1 rfl) ?_
  refine lv_iload_n hx hb dX4_reckon_8 rfl (lv_at hl 2 rfl) ?_
  refine xro_i (va_runV (As := [.int hv, .int vl]) (rest := [.ref (ad 0)]) ⟨hx, hb, hml, hown, hts⟩ (k_breaks l dC dI cI cL cZ ad hinj co nv nc mt mf wt hp bo 0 ss av re gh gv fo bv bc nd lo lh lw lb wa wh wv (by omega) (by omega) hv vl) (xcwV 2 hts wd_657 wd_39 wd_654 wd_656 wd_20 rfl rfl (by decide +kernel) ⟨Nat.le_of_ble_eq_true rfl, Nat.le_of_ble_eq_true rfl⟩) (xpreV (va_recv hK hP rfl (q0 := 0) rfl) hP hK) rfl rfl hl.1 rfl (lv_room (Nat.le_of_ble_eq_true rfl)) dX4_reckon_9 ⟨Nat.le_of_ble_eq_true rfl, Nat.le_of_ble_eq_true rfl⟩) hS (fun H locs hk hS => ?_)
  have hP := xkeep hP hk
  refine va_put (D := (dC, dI)) (ci := 4) (v := .int (m_breaks nc mt mf wt hv vl)) (ty := .boolean) (C := RX4) (T := TX4) (N := 25) hx hb hts (xcons inX4) tyX4 tyX4_ok nX4 hown hK hP (xD hinj [0, 1, 2, 3, 4, 5, 6, 7, 8, 9, 10, 11] rfl (by decide) (by decide)) hS 0 rfl rfl 6 (by decide) hw1 (fun _ h9 => h9) rfl (by decide +kernel) (xbool (breaks_b _ _ _ _ _ _)).1 (xbool (breaks_b _ _ _ _ _ _)).2 (Nat.le_of_ble_eq_true rfl) dX4_reckon_12 (fun H locs hP _ hS => ?_)
  have hP : va_P (dC, dI) vwCl [(ad 0, .inr (4, [.int co, .int (nI nv), .int (nI nc), .ref (ad 1), .ref (ad 2), .ref (ad 3), .int (m_breaks nc mt mf wt hv vl), .long bo, .int 0, .ref (ad 4), .ref (ad 5), .ref (ad 6), .int gh, .int gv, .int fo, .int bv, .long bc, .int nd, .int (nI lo), .ref (ad 7), .ref (ad 8), .ref (ad 9), .int (nI wa), .ref (ad 10), .ref (ad 11)])), (ad 1, .inl (cI, 40, .inl mt)), (ad 2, .inl (cI, 40, .inl mf)), (ad 3, .inl (cI, 40, .inl wt)), (ad 4, .inl (cL, 40, .inr (.inl ss))), (ad 5, .inl (cZ, 40, .inl av)), (ad 6, .inl (cI, 10, .inl re)), (ad 7, .inl (cI, 1024, .inl lh)), (ad 8, .inl (cI, 1024, .inl lw)), (ad 9, .inl (cL, 1024, .inr (.inl lb))), (ad 10, .inl (cI, 24, .inl wh)), (ad 11, .inl (cI, 24, .inl wv))] H := hP
  refine lv_aload_n hx hb dX4_reckon_15 rfl (lv_at hl 0 rfl) ?_
  refine lv_aload_n hx hb dX4_reckon_16 rfl (lv_at hl 0 rfl) ?_
  refine lv_iload_n hx hb dX4_reckon_17 rfl (lv_at hl 1 rfl) ?_
  refine lv_iload_n hx hb dX4_reckon_18 rfl (lv_at hl 2 rfl) ?_
  refine xro_l (va_runV (As := [.int hv, .int vl]) (rest := [.ref (ad 0)]) ⟨hx, hb, hml, hown, hts⟩ (k_costOf l dC dI cI cL cZ ad hinj co nv nc mt mf wt (m_breaks nc mt mf wt hv vl) bo 0 ss av re gh gv fo bv bc nd lo lh lw lb wa wh wv (by omega) (by omega) hv vl) (xcwV 2 hts wd_670 wd_39 wd_667 wd_669 wd_23 rfl rfl (by decide +kernel) ⟨Nat.le_of_ble_eq_true rfl, Nat.le_of_ble_eq_true rfl⟩) (xpreV (va_recv hK hP rfl (q0 := 0) rfl) hP hK) rfl rfl hl.1 rfl (lv_room (Nat.le_of_ble_eq_true rfl)) dX4_reckon_19 ⟨Nat.le_of_ble_eq_true rfl, Nat.le_of_ble_eq_true rfl⟩) hS (fun H locs hk hS => ?_)
  have hP := xkeep hP hk
  refine va_put (D := (dC, dI)) (ci := 4) (v := .long (m_costOf nc mt mf wt hv vl)) (ty := .long) (C := RX4) (T := TX4) (N := 25) hx hb hts (xcons inX4) tyX4 tyX4_ok nX4 hown hK hP (xD hinj [0, 1, 2, 3, 4, 5, 6, 7, 8, 9, 10, 11] rfl (by decide) (by decide)) hS 0 rfl rfl 7 (by decide) hw2 (fun _ h9 => h9) rfl (by decide +kernel) rfl rfl (Nat.le_of_ble_eq_true rfl) dX4_reckon_22 (fun H locs hP _ hS => ?_)
  have hP : va_P (dC, dI) vwCl [(ad 0, .inr (4, [.int co, .int (nI nv), .int (nI nc), .ref (ad 1), .ref (ad 2), .ref (ad 3), .int (m_breaks nc mt mf wt hv vl), .long (m_costOf nc mt mf wt hv vl), .int 0, .ref (ad 4), .ref (ad 5), .ref (ad 6), .int gh, .int gv, .int fo, .int bv, .long bc, .int nd, .int (nI lo), .ref (ad 7), .ref (ad 8), .ref (ad 9), .int (nI wa), .ref (ad 10), .ref (ad 11)])), (ad 1, .inl (cI, 40, .inl mt)), (ad 2, .inl (cI, 40, .inl mf)), (ad 3, .inl (cI, 40, .inl wt)), (ad 4, .inl (cL, 40, .inr (.inl ss))), (ad 5, .inl (cZ, 40, .inl av)), (ad 6, .inl (cI, 10, .inl re)), (ad 7, .inl (cI, 1024, .inl lh)), (ad 8, .inl (cI, 1024, .inl lw)), (ad 9, .inl (cL, 1024, .inr (.inl lb))), (ad 10, .inl (cI, 24, .inl wh)), (ad 11, .inl (cI, 24, .inl wv))] H := hP
  refine lv_iconst (v := 0) hx hb dX4_reckon_25 (by decide) ?_
  refine lv_istore_n (lv' := [(3, .int 0), (0, .ref (ad 0)), (1, .int hv), (2, .int vl)]) hx hb dX4_reckon_26 rfl hl (by decide) rfl (fun ls hl => ?_)
  have lp27 : ∀ (n : Nat) (i : Nat) (av2 : (Nat → Int32)) (av2a : (Nat → Int32)) (H : Heap) (locs : List Loc) (ls : Array Slot), av2a = m_reckon_A mt mf hv vl n i av2 → i + n = nc → va_P (dC, dI) vwCl [(ad 0, .inr (4, [.int co, .int (nI nv), .int (nI nc), .ref (ad 1), .ref (ad 2), .ref (ad 3), .int (m_breaks nc mt mf wt hv vl), .long (m_costOf nc mt mf wt hv vl), .int (nI 0), .ref (ad 4), .ref (ad 5), .ref (ad 6), .int gh, .int gv, .int fo, .int bv, .long bc, .int nd, .int (nI lo), .ref (ad 7), .ref (ad 8), .ref (ad 9), .int (nI wa), .ref (ad 10), .ref (ad 11)])), (ad 1, .inl (cI, 40, .inl mt)), (ad 2, .inl (cI, 40, .inl mf)), (ad 3, .inl (cI, 40, .inl wt)), (ad 4, .inl (cL, 40, .inr (.inl ss))), (ad 5, .inl (cZ, 40, .inl av2)), (ad 6, .inl (cI, 10, .inl re)), (ad 7, .inl (cI, 1024, .inl lh)), (ad 8, .inl (cI, 1024, .inl lw)), (ad 9, .inl (cL, 1024, .inr (.inl lb))), (ad 10, .inl (cI, 24, .inl wh)), (ad 11, .inl (cI, 24, .inl wv))] H → va_S (xA ad [0, 1, 2, 3, 4, 5, 6, 7, 8, 9, 10, 11]) s.heap H locs → lv_has ls 9 [(0, .ref (ad 0)), (1, .int hv), (2, .int vl), (3, .int (nI i))] → (∀ (H : Heap) (locs : List Loc) (ls : Array Slot), va_P (dC, dI) vwCl [(ad 0, .inr (4, [.int co, .int (nI nv), .int (nI nc), .ref (ad 1), .ref (ad 2), .ref (ad 3), .int (m_breaks nc mt mf wt hv vl), .long (m_costOf nc mt mf wt hv vl), .int (nI 0), .ref (ad 4), .ref (ad 5), .ref (ad 6), .int gh, .int gv, .int fo, .int bv, .long bc, .int nd, .int (nI lo), .ref (ad 7), .ref (ad 8), .ref (ad 9), .int (nI wa), .ref (ad 10), .ref (ad 11)])), (ad 1, .inl (cI, 40, .inl mt)), (ad 2, .inl (cI, 40, .inl mf)), (ad 3, .inl (cI, 40, .inl wt)), (ad 4, .inl (cL, 40, .inr (.inl ss))), (ad 5, .inl (cZ, 40, .inl av2a)), (ad 6, .inl (cI, 10, .inl re)), (ad 7, .inl (cI, 1024, .inl lh)), (ad 8, .inl (cI, 1024, .inl lw)), (ad 9, .inl (cL, 1024, .inr (.inl lb))), (ad 10, .inl (cI, 24, .inl wh)), (ad 11, .inl (cI, 24, .inl wv))] H → va_S (xA ad [0, 1, 2, 3, 4, 5, 6, 7, 8, 9, 10, 11]) s.heap H locs → lv_has ls 9 [(0, .ref (ad 0)), (1, .int hv), (2, .int vl)] → W p l e (headSpec wsX4_reckon ({ frames := 4, cells := 0, slots := 0, locals := 93 })).room s m [.ref (ad 0), .int hv, .int vl].toArray below meth c H locs 0 0 (MQ below (va_Qv (fun u => m_reckon nv nc mt mf wt hp bo su ss av re gh gv hv vl = some u) (xB (dC, dI) vwCl (fun (u : Int32 × Int64 × Nat × (Nat → Int64) × (Nat → Int32) × (Nat → Int32) × Int32 × Int32) => match u with | (hp1, bo1, su1, ss1, av1, re1, gh1, gv1) => [(ad 0, .inr (4, [.int co, .int (nI nv), .int (nI nc), .ref (ad 1), .ref (ad 2), .ref (ad 3), .int hp1, .long bo1, .int (nI su1), .ref (ad 4), .ref (ad 5), .ref (ad 6), .int gh1, .int gv1, .int fo, .int bv, .long bc, .int nd, .int (nI lo), .ref (ad 7), .ref (ad 8), .ref (ad 9), .int (nI wa), .ref (ad 10), .ref (ad 11)])), (ad 1, .inl (cI, 40, .inl mt)), (ad 2, .inl (cI, 40, .inl mf)), (ad 3, .inl (cI, 40, .inl wt)), (ad 4, .inl (cL, 40, .inr (.inl ss1))), (ad 5, .inl (cZ, 40, .inl av1)), (ad 6, .inl (cI, 10, .inl re1)), (ad 7, .inl (cI, 1024, .inl lh)), (ad 8, .inl (cI, 1024, .inl lw)), (ad 9, .inl (cL, 1024, .inr (.inl lb))), (ad 10, .inl (cI, 24, .inl wh)), (ad 11, .inl (cI, 24, .inl wv))])) (xA ad [0, 1, 2, 3, 4, 5, 6, 7, 8, 9, 10, 11])) [.ref (ad 0), .int hv, .int vl].toArray s 0 0 (xA ad [0, 1, 2, 3, 4, 5, 6, 7, 8, 9, 10, 11])) (F0 m 54 ls [])) → W p l e (headSpec wsX4_reckon ({ frames := 4, cells := 0, slots := 0, locals := 93 })).room s m [.ref (ad 0), .int hv, .int vl].toArray below meth c H locs 0 0 (MQ below (va_Qv (fun u => m_reckon nv nc mt mf wt hp bo su ss av re gh gv hv vl = some u) (xB (dC, dI) vwCl (fun (u : Int32 × Int64 × Nat × (Nat → Int64) × (Nat → Int32) × (Nat → Int32) × Int32 × Int32) => match u with | (hp1, bo1, su1, ss1, av1, re1, gh1, gv1) => [(ad 0, .inr (4, [.int co, .int (nI nv), .int (nI nc), .ref (ad 1), .ref (ad 2), .ref (ad 3), .int hp1, .long bo1, .int (nI su1), .ref (ad 4), .ref (ad 5), .ref (ad 6), .int gh1, .int gv1, .int fo, .int bv, .long bc, .int nd, .int (nI lo), .ref (ad 7), .ref (ad 8), .ref (ad 9), .int (nI wa), .ref (ad 10), .ref (ad 11)])), (ad 1, .inl (cI, 40, .inl mt)), (ad 2, .inl (cI, 40, .inl mf)), (ad 3, .inl (cI, 40, .inl wt)), (ad 4, .inl (cL, 40, .inr (.inl ss1))), (ad 5, .inl (cZ, 40, .inl av1)), (ad 6, .inl (cI, 10, .inl re1)), (ad 7, .inl (cI, 1024, .inl lh)), (ad 8, .inl (cI, 1024, .inl lw)), (ad 9, .inl (cL, 1024, .inr (.inl lb))), (ad 10, .inl (cI, 24, .inl wh)), (ad 11, .inl (cI, 24, .inl wv))])) (xA ad [0, 1, 2, 3, 4, 5, 6, 7, 8, 9, 10, 11])) [.ref (ad 0), .int hv, .int vl].toArray s 0 0 (xA ad [0, 1, 2, 3, 4, 5, 6, 7, 8, 9, 10, 11])) (F0 m 27 ls []) := by
    intro n
    induction n with
    | zero =>
      intro i av2 av2a H locs ls hF hil hP hS hl hkx
      rw [m_reckon_A] at hF
      refine lv_iload_n hx hb dX4_reckon_27 rfl (lv_at hl 3 rfl) ?_
      refine lv_aload_n hx hb dX4_reckon_28 rfl (lv_at hl 0 rfl) ?_
      refine va_get (D := (dC, dI)) (ci := 4) (v := .int (nI nc)) (C := RX4) (T := TX4) (N := 25) hx hb hts (xcons inX4) hown hK hP 0 rfl rfl 2 (by decide) hw3 (fun _ h9 => h9) rfl dX4_reckon_29 ?_
      refine lv_icmp_ge (tgt := 54) hx hb dX4_reckon_32 (by decide) (fun h1 => ?_) (fun h1 => absurd (nI_le (by omega) (by omega)) h1)
      subst hF
      exact hkx _ _ _ hP hS (lv_sub hl [0, 1, 2] rfl)
    | succ n ih =>
      intro i av2 av2a H locs ls hF hil hP hS hl hkx
      rw [m_reckon_A] at hF
      refine lv_iload_n hx hb dX4_reckon_27 rfl (lv_at hl 3 rfl) ?_
      refine lv_aload_n hx hb dX4_reckon_28 rfl (lv_at hl 0 rfl) ?_
      refine va_get (D := (dC, dI)) (ci := 4) (v := .int (nI nc)) (C := RX4) (T := TX4) (N := 25) hx hb hts (xcons inX4) hown hK hP 0 rfl rfl 2 (by decide) hw3 (fun _ h9 => h9) rfl dX4_reckon_29 ?_
      refine lv_icmp_ge (tgt := 54) hx hb dX4_reckon_32 (by decide) (fun h2 => absurd h2 (nI_ge (by omega) (by omega))) (fun h2 => ?_)
      refine lv_aload_n hx hb dX4_reckon_35 rfl (lv_at hl 0 rfl) ?_
      refine va_get (D := (dC, dI)) (ci := 4) (v := .ref (ad 5)) (C := RX4) (T := TX4) (N := 25) hx hb hts (xcons inX4) hown hK hP 0 rfl rfl 10 (by decide) hw4 (fun _ h9 => h9) rfl dX4_reckon_36 ?_
      refine lv_iload_n hx hb dX4_reckon_39 rfl (lv_at hl 3 rfl) ?_
      refine lv_aload_n hx hb dX4_reckon_40 rfl (lv_at hl 0 rfl) ?_
      refine lv_iload_n hx hb dX4_reckon_41 rfl (lv_at hl 3 rfl) ?_
      refine lv_iload_n hx hb dX4_reckon_42 rfl (lv_at hl 1 rfl) ?_
      refine lv_iload_n hx hb dX4_reckon_43 rfl (lv_at hl 2 rfl) ?_
      refine xro_i (va_runV (As := [.int (nI i), .int hv, .int vl]) (rest := [.int (nI i), .ref (ad 5)]) ⟨hx, hb, hml, hown, hts⟩ (k_isOpen l dC dI cI cL cZ ad hinj co nv nc mt mf wt (m_breaks nc mt mf wt hv vl) (m_costOf nc mt mf wt hv vl) 0 ss av2 re gh gv fo bv bc nd lo lh lw lb wa wh wv i (by omega) hv vl) (xcwV 3 hts wd_682 wd_39 wd_679 wd_681 wd_25 rfl rfl (by decide +kernel) ⟨Nat.le_of_ble_eq_true rfl, Nat.le_of_ble_eq_true rfl⟩) (xpreV (va_recv hK hP rfl (q0 := 0) rfl) hP hK) rfl rfl hl.1 rfl (lv_room (Nat.le_of_ble_eq_true rfl)) dX4_reckon_44 ⟨Nat.le_of_ble_eq_true rfl, Nat.le_of_ble_eq_true rfl⟩) hS (fun H locs hk hS => ?_)
      have hP := xkeep hP hk
      refine xr_zast hx hb hK hP (xD hinj [0, 1, 2, 3, 4, 5, 6, 7, 8, 9, 10, 11] rfl (by decide) (by decide)) hS 5 2 rfl rfl i (by omega) (by omega) dX4_reckon_47 (fun H locs hP hS => ?_)
      have hP : va_P (dC, dI) vwCl [(ad 0, .inr (4, [.int co, .int (nI nv), .int (nI nc), .ref (ad 1), .ref (ad 2), .ref (ad 3), .int (m_breaks nc mt mf wt hv vl), .long (m_costOf nc mt mf wt hv vl), .int (nI 0), .ref (ad 4), .ref (ad 5), .ref (ad 6), .int gh, .int gv, .int fo, .int bv, .long bc, .int nd, .int (nI lo), .ref (ad 7), .ref (ad 8), .ref (ad 9), .int (nI wa), .ref (ad 10), .ref (ad 11)])), (ad 1, .inl (cI, 40, .inl mt)), (ad 2, .inl (cI, 40, .inl mf)), (ad 3, .inl (cI, 40, .inl wt)), (ad 4, .inl (cL, 40, .inr (.inl ss))), (ad 5, .inl (cZ, 40, .inl (upd av2 i (vp_nar .boolean (m_isOpen mt mf i hv vl))))), (ad 6, .inl (cI, 10, .inl re)), (ad 7, .inl (cI, 1024, .inl lh)), (ad 8, .inl (cI, 1024, .inl lw)), (ad 9, .inl (cL, 1024, .inr (.inl lb))), (ad 10, .inl (cI, 24, .inl wh)), (ad 11, .inl (cI, 24, .inl wv))] H := hP
      refine lv_iinc (k := 3) (v := (nI (i + 1))) (lv' := [(3, .int (nI (i + 1))), (0, .ref (ad 0)), (1, .int hv), (2, .int vl)]) hx hb dX4_reckon_48 hl rfl (xinc _) (by decide) rfl (fun ls hl => ?_)
      refine lv_goto (tgt := 27) hx hb dX4_reckon_51 (by decide) ?_
      exact ih (i + 1) (upd av2 i (vp_nar .boolean (m_isOpen mt mf i hv vl))) av2a _ _ _ hF (by omega) hP hS (lv_sub hl [1, 2, 3, 0] rfl) hkx
  obtain ⟨av2a, hq27⟩ : ∃ (av2a : (Nat → Int32)), av2a = m_reckon_A mt mf hv vl nc 0 av := ⟨_, rfl⟩
  rw [← hq27] at hF
  try dsimp only at hF
  refine lp27 nc 0 av av2a _ _ _ hq27 (by omega) hP hS (lv_sub hl [1, 2, 3, 0] rfl) (fun H locs ls hP hS hl => ?_)
  refine lv_aload_n hx hb dX4_reckon_54 rfl (lv_at hl 0 rfl) ?_
  refine va_get (D := (dC, dI)) (ci := 4) (v := .int (m_breaks nc mt mf wt hv vl)) (C := RX4) (T := TX4) (N := 25) hx hb hts (xcons inX4) hown hK hP 0 rfl rfl 6 (by decide) hw1 (fun _ h9 => h9) rfl dX4_reckon_55 ?_
  have hJ58 : ∀ (H : Heap) (locs : List Loc), va_P (dC, dI) vwCl [(ad 0, .inr (4, [.int co, .int (nI nv), .int (nI nc), .ref (ad 1), .ref (ad 2), .ref (ad 3), .int (m_breaks nc mt mf wt hv vl), .long (m_costOf nc mt mf wt hv vl), .int (nI 0), .ref (ad 4), .ref (ad 5), .ref (ad 6), .int gh, .int gv, .int fo, .int bv, .long bc, .int nd, .int (nI lo), .ref (ad 7), .ref (ad 8), .ref (ad 9), .int (nI wa), .ref (ad 10), .ref (ad 11)])), (ad 1, .inl (cI, 40, .inl mt)), (ad 2, .inl (cI, 40, .inl mf)), (ad 3, .inl (cI, 40, .inl wt)), (ad 4, .inl (cL, 40, .inr (.inl ss))), (ad 5, .inl (cZ, 40, .inl av2a)), (ad 6, .inl (cI, 10, .inl re)), (ad 7, .inl (cI, 1024, .inl lh)), (ad 8, .inl (cI, 1024, .inl lw)), (ad 9, .inl (cL, 1024, .inr (.inl lb))), (ad 10, .inl (cI, 24, .inl wh)), (ad 11, .inl (cI, 24, .inl wv))] H → va_S (xA ad [0, 1, 2, 3, 4, 5, 6, 7, 8, 9, 10, 11]) s.heap H locs → W p l e (headSpec wsX4_reckon ({ frames := 4, cells := 0, slots := 0, locals := 93 })).room s m [.ref (ad 0), .int hv, .int vl].toArray below meth c H locs 0 0 (MQ below (va_Qv (fun u => m_reckon nv nc mt mf wt hp bo su ss av re gh gv hv vl = some u) (xB (dC, dI) vwCl (fun (u : Int32 × Int64 × Nat × (Nat → Int64) × (Nat → Int32) × (Nat → Int32) × Int32 × Int32) => match u with | (hp1, bo1, su1, ss1, av1, re1, gh1, gv1) => [(ad 0, .inr (4, [.int co, .int (nI nv), .int (nI nc), .ref (ad 1), .ref (ad 2), .ref (ad 3), .int hp1, .long bo1, .int (nI su1), .ref (ad 4), .ref (ad 5), .ref (ad 6), .int gh1, .int gv1, .int fo, .int bv, .long bc, .int nd, .int (nI lo), .ref (ad 7), .ref (ad 8), .ref (ad 9), .int (nI wa), .ref (ad 10), .ref (ad 11)])), (ad 1, .inl (cI, 40, .inl mt)), (ad 2, .inl (cI, 40, .inl mf)), (ad 3, .inl (cI, 40, .inl wt)), (ad 4, .inl (cL, 40, .inr (.inl ss1))), (ad 5, .inl (cZ, 40, .inl av1)), (ad 6, .inl (cI, 10, .inl re1)), (ad 7, .inl (cI, 1024, .inl lh)), (ad 8, .inl (cI, 1024, .inl lw)), (ad 9, .inl (cL, 1024, .inr (.inl lb))), (ad 10, .inl (cI, 24, .inl wh)), (ad 11, .inl (cI, 24, .inl wv))])) (xA ad [0, 1, 2, 3, 4, 5, 6, 7, 8, 9, 10, 11])) [.ref (ad 0), .int hv, .int vl].toArray s 0 0 (xA ad [0, 1, 2, 3, 4, 5, 6, 7, 8, 9, 10, 11])) (F0 m 66 ls [.int ((if (m_breaks nc mt mf wt hv vl) = 0 then 1 else 0) : Int32)]) := by
    intro H locs hP hS
    refine lv_istore_n (lv' := [(3, .int ((if (m_breaks nc mt mf wt hv vl) = 0 then 1 else 0) : Int32)), (0, .ref (ad 0)), (1, .int hv), (2, .int vl)]) hx hb dX4_reckon_66 rfl hl (by decide) rfl (fun ls hl => ?_)
    have lp67 : ∀ (n : Nat) (mo : Int32) (hp2 : Int32) (bo2 : Int64) (su2 : Nat) (ss2 : (Nat → Int64)) (av2 : (Nat → Int32)) (re2 : (Nat → Int32)) (gh2 : Int32) (gv2 : Int32) (H : Heap) (locs : List Loc) (ls : Array Slot), m_reckon nv nc mt mf wt hp bo su ss av re gh gv hv vl = m_reckon_L nv nc mt mf wt hv vl n mo hp2 bo2 su2 ss2 av2 re2 gh2 gv2 → va_P (dC, dI) vwCl [(ad 0, .inr (4, [.int co, .int (nI nv), .int (nI nc), .ref (ad 1), .ref (ad 2), .ref (ad 3), .int hp2, .long bo2, .int (nI su2), .ref (ad 4), .ref (ad 5), .ref (ad 6), .int gh2, .int gv2, .int fo, .int bv, .long bc, .int nd, .int (nI lo), .ref (ad 7), .ref (ad 8), .ref (ad 9), .int (nI wa), .ref (ad 10), .ref (ad 11)])), (ad 1, .inl (cI, 40, .inl mt)), (ad 2, .inl (cI, 40, .inl mf)), (ad 3, .inl (cI, 40, .inl wt)), (ad 4, .inl (cL, 40, .inr (.inl ss2))), (ad 5, .inl (cZ, 40, .inl av2)), (ad 6, .inl (cI, 10, .inl re2)), (ad 7, .inl (cI, 1024, .inl lh)), (ad 8, .inl (cI, 1024, .inl lw)), (ad 9, .inl (cL, 1024, .inr (.inl lb))), (ad 10, .inl (cI, 24, .inl wh)), (ad 11, .inl (cI, 24, .inl wv))] H → va_S (xA ad [0, 1, 2, 3, 4, 5, 6, 7, 8, 9, 10, 11]) s.heap H locs → lv_has ls 9 [(0, .ref (ad 0)), (1, .int hv), (2, .int vl), (3, .int mo)] → W p l e (headSpec wsX4_reckon ({ frames := 4, cells := 0, slots := 0, locals := 93 })).room s m [.ref (ad 0), .int hv, .int vl].toArray below meth c H locs 0 0 (MQ below (va_Qv (fun u => m_reckon nv nc mt mf wt hp bo su ss av re gh gv hv vl = some u) (xB (dC, dI) vwCl (fun (u : Int32 × Int64 × Nat × (Nat → Int64) × (Nat → Int32) × (Nat → Int32) × Int32 × Int32) => match u with | (hp1, bo1, su1, ss1, av1, re1, gh1, gv1) => [(ad 0, .inr (4, [.int co, .int (nI nv), .int (nI nc), .ref (ad 1), .ref (ad 2), .ref (ad 3), .int hp1, .long bo1, .int (nI su1), .ref (ad 4), .ref (ad 5), .ref (ad 6), .int gh1, .int gv1, .int fo, .int bv, .long bc, .int nd, .int (nI lo), .ref (ad 7), .ref (ad 8), .ref (ad 9), .int (nI wa), .ref (ad 10), .ref (ad 11)])), (ad 1, .inl (cI, 40, .inl mt)), (ad 2, .inl (cI, 40, .inl mf)), (ad 3, .inl (cI, 40, .inl wt)), (ad 4, .inl (cL, 40, .inr (.inl ss1))), (ad 5, .inl (cZ, 40, .inl av1)), (ad 6, .inl (cI, 10, .inl re1)), (ad 7, .inl (cI, 1024, .inl lh)), (ad 8, .inl (cI, 1024, .inl lw)), (ad 9, .inl (cL, 1024, .inr (.inl lb))), (ad 10, .inl (cI, 24, .inl wh)), (ad 11, .inl (cI, 24, .inl wv))])) (xA ad [0, 1, 2, 3, 4, 5, 6, 7, 8, 9, 10, 11])) [.ref (ad 0), .int hv, .int vl].toArray s 0 0 (xA ad [0, 1, 2, 3, 4, 5, 6, 7, 8, 9, 10, 11])) (F0 m 67 ls []) := by
      intro n
      induction n with
      | zero =>
        intro mo hp2 bo2 su2 ss2 av2 re2 gh2 gv2 H locs ls hF  hP hS hl
        rw [m_reckon_L] at hF
        obtain ⟨z, hz⟩ := hsome
        rw [hz] at hF
        cases hF
      | succ n ih =>
        intro mo hp2 bo2 su2 ss2 av2 re2 gh2 gv2 H locs ls hF  hP hS hl
        rw [m_reckon_L] at hF
        refine lv_iload_n hx hb dX4_reckon_67 rfl (lv_at hl 3 rfl) ?_
        refine lv_if_eq (tgt := 247) hx hb dX4_reckon_68 (by decide) (fun h3 => ?_) (fun h3 => ?_)
        · have hF := hF.trans (if_pos h3)
          exact W.vret hx hb hr (fun t ht hW => ⟨⟨(hp2, bo2, su2, ss2, av2, re2, gh2, gv2), rfl, hF, xBi ht hP⟩, hS.F ht⟩) hS.2.2 dX4_reckon_247
        · have hF := hF.trans (if_neg h3)
          refine lv_aload_n hx hb dX4_reckon_71 rfl (lv_at hl 0 rfl) ?_
          refine lv_iload_n hx hb dX4_reckon_72 rfl (lv_at hl 1 rfl) ?_
          refine lv_iload_n hx hb dX4_reckon_73 rfl (lv_at hl 2 rfl) ?_
          have hs74 : ∃ z, (m_grow nv nc mt mf av2 re2 hv vl) = some z := by
            cases hq : (m_grow nv nc mt mf av2 re2 hv vl) with
            | none => rw [hq] at hF; obtain ⟨z, hz⟩ := hsome; rw [hz] at hF; cases hF
            | some z => exact ⟨z, rfl⟩
          refine xrw_i (va_runV (As := [.int hv, .int vl]) (rest := []) ⟨hx, hb, hml, hown, hts⟩ (k_grow l dC dI cI cL cZ ad hinj co nv nc mt mf wt hp2 bo2 su2 ss2 av2 re2 gh2 gv2 fo bv bc nd lo lh lw lb wa wh wv (by omega) (by omega) hv vl hs74) (xcwV 2 hts wd_686 wd_39 wd_683 wd_685 wd_26 rfl rfl (by decide +kernel) ⟨Nat.le_of_ble_eq_true rfl, Nat.le_of_ble_eq_true rfl⟩) (xpreV (va_recv hK hP rfl (q0 := 0) rfl) hP hK) rfl rfl hl.1 rfl (lv_room (Nat.le_of_ble_eq_true rfl)) dX4_reckon_74 ⟨Nat.le_of_ble_eq_true rfl, Nat.le_of_ble_eq_true rfl⟩) hS (xAsub (by decide)) (fun r_74 u H locs h4 hB hk hS => ?_)
          obtain ⟨gh1_74, gv1_74, re1_74⟩ := u
          have hP : va_P (dC, dI) vwCl [(ad 0, .inr (4, [.int co, .int (nI nv), .int (nI nc), .ref (ad 1), .ref (ad 2), .ref (ad 3), .int hp2, .long bo2, .int (nI su2), .ref (ad 4), .ref (ad 5), .ref (ad 6), .int gh1_74, .int gv1_74, .int fo, .int bv, .long bc, .int nd, .int (nI lo), .ref (ad 7), .ref (ad 8), .ref (ad 9), .int (nI wa), .ref (ad 10), .ref (ad 11)])), (ad 1, .inl (cI, 40, .inl mt)), (ad 2, .inl (cI, 40, .inl mf)), (ad 3, .inl (cI, 40, .inl wt)), (ad 4, .inl (cL, 40, .inr (.inl ss2))), (ad 5, .inl (cZ, 40, .inl av2)), (ad 6, .inl (cI, 10, .inl re1_74)), (ad 7, .inl (cI, 1024, .inl lh)), (ad 8, .inl (cI, 1024, .inl lw)), (ad 9, .inl (cL, 1024, .inr (.inl lb))), (ad 10, .inl (cI, 24, .inl wh)), (ad 11, .inl (cI, 24, .inl wv))] H := va_P.sub hB [0, 1, 2, 3, 4, 5, 6, 7, 8, 9, 10, 11] rfl
          rw [h4] at hF
          try dsimp only at hF
          refine lv_istore (lv' := [(4, .int r_74), (0, .ref (ad 0)), (1, .int hv), (2, .int vl), (3, .int mo)]) hx hb dX4_reckon_77 hl (by decide) rfl (fun ls hl => ?_)
          refine lv_iload hx hb dX4_reckon_79 (lv_at hl 0 rfl) ?_
          refine lv_if_lt (tgt := 88) hx hb dX4_reckon_81 (by decide) (fun h5 => ?_) (fun h5 => ?_)
          · have hF := hF.trans (if_pos h5)
            refine lv_iconst (v := 0) hx hb dX4_reckon_88 (by decide) ?_
            refine lv_istore_n (lv' := [(3, .int 0), (4, .int r_74), (0, .ref (ad 0)), (1, .int hv), (2, .int vl)]) hx hb dX4_reckon_89 rfl hl (by decide) rfl (fun ls hl => ?_)
            refine lv_iload_n hx hb dX4_reckon_90 rfl (lv_at hl 0 rfl) ?_
            refine lv_if_eq (tgt := 244) hx hb dX4_reckon_91 (by decide) (fun h6 => ?_) (fun h6 => absurd (by decide) h6)
            refine lv_goto (tgt := 67) hx hb dX4_reckon_244 (by decide) ?_
            exact ih 0 hp2 bo2 su2 ss2 av2 re1_74 gh1_74 gv1_74 _ _ _ hF  hP hS (lv_sub hl [2, 3, 4, 0] rfl)
          · have hF := hF.trans (if_neg h5)
            refine lv_iconst (v := 1) hx hb dX4_reckon_84 (by decide) ?_
            refine lv_goto (tgt := 89) hx hb dX4_reckon_85 (by decide) ?_
            refine lv_istore_n (lv' := [(3, .int 1), (4, .int r_74), (0, .ref (ad 0)), (1, .int hv), (2, .int vl)]) hx hb dX4_reckon_89 rfl hl (by decide) rfl (fun ls hl => ?_)
            refine lv_iload_n hx hb dX4_reckon_90 rfl (lv_at hl 0 rfl) ?_
            refine lv_if_eq (tgt := 244) hx hb dX4_reckon_91 (by decide) (fun h7 => absurd h7 (by decide)) (fun h7 => ?_)
            refine lv_aload_n hx hb dX4_reckon_94 rfl (lv_at hl 2 rfl) ?_
            refine lv_iload hx hb dX4_reckon_95 (lv_at hl 1 rfl) ?_
            have hs97 : ∃ z, (m_gather nv nc mt mf re1_74 r_74) = some z := by
              cases hq : (m_gather nv nc mt mf re1_74 r_74) with
              | none => rw [hq] at hF; obtain ⟨z, hz⟩ := hsome; rw [hz] at hF; cases hF
              | some z => exact ⟨z, rfl⟩
            refine xrov_l (va_runV (As := [.int r_74]) (rest := []) ⟨hx, hb, hml, hown, hts⟩ (k_gather l dC dI cI cL cZ ad hinj co nv nc mt mf wt hp2 bo2 su2 ss2 av2 re1_74 gh1_74 gv1_74 fo bv bc nd lo lh lw lb wa wh wv (by omega) (by omega) r_74 hs97) (xcwV 1 hts wd_698 wd_39 wd_695 wd_697 wd_29 rfl rfl (by decide +kernel) ⟨Nat.le_of_ble_eq_true rfl, Nat.le_of_ble_eq_true rfl⟩) (xpreV (va_recv hK hP rfl (q0 := 0) rfl) hP hK) rfl rfl hl.1 rfl (lv_room (Nat.le_of_ble_eq_true rfl)) dX4_reckon_97 ⟨Nat.le_of_ble_eq_true rfl, Nat.le_of_ble_eq_true rfl⟩) hS (fun r_97 H locs h8 hk hS => ?_)
            have hP := xkeep hP hk
            rw [h8] at hF
            try dsimp only at hF
            refine lv_lstore (lv' := [(5, .long r_97), (3, .int 1), (4, .int r_74), (0, .ref (ad 0)), (1, .int hv), (2, .int vl)]) hx hb dX4_reckon_100 hl (by decide) rfl (fun ls hl => ?_)
            by_cases h9 : su2 < 40
            case neg =>
              have hF := hF.trans (if_neg h9)
              obtain ⟨z, hz⟩ := hsome
              rw [hz] at hF
              cases hF
            have hF := hF.trans (if_pos h9)
            refine lv_aload_n hx hb dX4_reckon_102 rfl (lv_at hl 3 rfl) ?_
            refine va_get (D := (dC, dI)) (ci := 4) (v := .ref (ad 4)) (C := RX4) (T := TX4) (N := 25) hx hb hts (xcons inX4) hown hK hP 0 rfl rfl 9 (by decide) hw5 (fun _ h9 => h9) rfl dX4_reckon_103 ?_
            refine lv_aload_n hx hb dX4_reckon_106 rfl (lv_at hl 3 rfl) ?_
            refine va_get (D := (dC, dI)) (ci := 4) (v := .int (nI su2)) (C := RX4) (T := TX4) (N := 25) hx hb hts (xcons inX4) hown hK hP 0 rfl rfl 8 (by decide) hw0 (fun _ h9 => h9) rfl dX4_reckon_107 ?_
            refine lv_lload hx hb dX4_reckon_110 (lv_at hl 0 rfl) ?_
            refine xr_last hx hb hK hP (xD hinj [0, 1, 2, 3, 4, 5, 6, 7, 8, 9, 10, 11] rfl (by decide) (by decide)) hS 4 1 rfl rfl su2 (by omega) (by omega) dX4_reckon_112 (fun H locs hP hS => ?_)
            have hP : va_P (dC, dI) vwCl [(ad 0, .inr (4, [.int co, .int (nI nv), .int (nI nc), .ref (ad 1), .ref (ad 2), .ref (ad 3), .int hp2, .long bo2, .int (nI su2), .ref (ad 4), .ref (ad 5), .ref (ad 6), .int gh1_74, .int gv1_74, .int fo, .int bv, .long bc, .int nd, .int (nI lo), .ref (ad 7), .ref (ad 8), .ref (ad 9), .int (nI wa), .ref (ad 10), .ref (ad 11)])), (ad 1, .inl (cI, 40, .inl mt)), (ad 2, .inl (cI, 40, .inl mf)), (ad 3, .inl (cI, 40, .inl wt)), (ad 4, .inl (cL, 40, .inr (.inl (vp_updL ss2 su2 r_97)))), (ad 5, .inl (cZ, 40, .inl av2)), (ad 6, .inl (cI, 10, .inl re1_74)), (ad 7, .inl (cI, 1024, .inl lh)), (ad 8, .inl (cI, 1024, .inl lw)), (ad 9, .inl (cL, 1024, .inr (.inl lb))), (ad 10, .inl (cI, 24, .inl wh)), (ad 11, .inl (cI, 24, .inl wv))] H := hP
            refine lv_aload_n hx hb dX4_reckon_113 rfl (lv_at hl 3 rfl) ?_
            refine lv_dup hx hb dX4_reckon_114 rfl ?_
            refine va_get (D := (dC, dI)) (ci := 4) (v := .int (nI su2)) (C := RX4) (T := TX4) (N := 25) hx hb hts (xcons inX4) hown hK hP 0 rfl rfl 8 (by decide) hw0 (fun _ h9 => h9) rfl dX4_reckon_115 ?_
            refine lv_iconst (v := 1) hx hb dX4_reckon_118 (by decide) ?_
            refine xr_add1 hx hb dX4_reckon_119 ?_
            refine va_put (D := (dC, dI)) (ci := 4) (v := .int (nI (su2 + 1))) (ty := .int) (C := RX4) (T := TX4) (N := 25) hx hb hts (xcons inX4) tyX4 tyX4_ok nX4 hown hK hP (xD hinj [0, 1, 2, 3, 4, 5, 6, 7, 8, 9, 10, 11] rfl (by decide) (by decide)) hS 0 rfl rfl 8 (by decide) hw0 (fun _ h9 => h9) rfl (by decide +kernel) rfl rfl (Nat.le_of_ble_eq_true rfl) dX4_reckon_120 (fun H locs hP _ hS => ?_)
            have hP : va_P (dC, dI) vwCl [(ad 0, .inr (4, [.int co, .int (nI nv), .int (nI nc), .ref (ad 1), .ref (ad 2), .ref (ad 3), .int hp2, .long bo2, .int (nI (su2 + 1)), .ref (ad 4), .ref (ad 5), .ref (ad 6), .int gh1_74, .int gv1_74, .int fo, .int bv, .long bc, .int nd, .int (nI lo), .ref (ad 7), .ref (ad 8), .ref (ad 9), .int (nI wa), .ref (ad 10), .ref (ad 11)])), (ad 1, .inl (cI, 40, .inl mt)), (ad 2, .inl (cI, 40, .inl mf)), (ad 3, .inl (cI, 40, .inl wt)), (ad 4, .inl (cL, 40, .inr (.inl (vp_updL ss2 su2 r_97)))), (ad 5, .inl (cZ, 40, .inl av2)), (ad 6, .inl (cI, 10, .inl re1_74)), (ad 7, .inl (cI, 1024, .inl lh)), (ad 8, .inl (cI, 1024, .inl lw)), (ad 9, .inl (cL, 1024, .inr (.inl lb))), (ad 10, .inl (cI, 24, .inl wh)), (ad 11, .inl (cI, 24, .inl wv))] H := hP
            refine lv_iconst (v := 0) hx hb dX4_reckon_123 (by decide) ?_
            refine lv_istore (lv' := [(7, .int 0), (5, .long r_97), (3, .int 1), (4, .int r_74), (0, .ref (ad 0)), (1, .int hv), (2, .int vl)]) hx hb dX4_reckon_124 hl (by decide) rfl (fun ls hl => ?_)
            refine lv_iconst (v := 0) hx hb dX4_reckon_126 (by decide) ?_
            refine lv_istore (lv' := [(8, .int 0), (7, .int 0), (5, .long r_97), (3, .int 1), (4, .int r_74), (0, .ref (ad 0)), (1, .int hv), (2, .int vl)]) hx hb dX4_reckon_127 hl (by decide) rfl (fun ls hl => ?_)
            have lp129 : ∀ (n : Nat) (i : Nat) (le3 : Int32) (av3 : (Nat → Int32)) (le3b : Int32) (av3b : (Nat → Int32)) (H : Heap) (locs : List Loc) (ls : Array Slot), (le3b, av3b) = m_reckon_B wt r_97 n i le3 av3 → i + n = nc → va_P (dC, dI) vwCl [(ad 0, .inr (4, [.int co, .int (nI nv), .int (nI nc), .ref (ad 1), .ref (ad 2), .ref (ad 3), .int hp2, .long bo2, .int (nI (su2 + 1)), .ref (ad 4), .ref (ad 5), .ref (ad 6), .int gh1_74, .int gv1_74, .int fo, .int bv, .long bc, .int nd, .int (nI lo), .ref (ad 7), .ref (ad 8), .ref (ad 9), .int (nI wa), .ref (ad 10), .ref (ad 11)])), (ad 1, .inl (cI, 40, .inl mt)), (ad 2, .inl (cI, 40, .inl mf)), (ad 3, .inl (cI, 40, .inl wt)), (ad 4, .inl (cL, 40, .inr (.inl (vp_updL ss2 su2 r_97)))), (ad 5, .inl (cZ, 40, .inl av3)), (ad 6, .inl (cI, 10, .inl re1_74)), (ad 7, .inl (cI, 1024, .inl lh)), (ad 8, .inl (cI, 1024, .inl lw)), (ad 9, .inl (cL, 1024, .inr (.inl lb))), (ad 10, .inl (cI, 24, .inl wh)), (ad 11, .inl (cI, 24, .inl wv))] H → va_S (xA ad [0, 1, 2, 3, 4, 5, 6, 7, 8, 9, 10, 11]) s.heap H locs → lv_has ls 9 [(0, .ref (ad 0)), (1, .int hv), (2, .int vl), (5, .long r_97), (7, .int le3), (8, .int (nI i))] → (∀ (H : Heap) (locs : List Loc) (ls : Array Slot), va_P (dC, dI) vwCl [(ad 0, .inr (4, [.int co, .int (nI nv), .int (nI nc), .ref (ad 1), .ref (ad 2), .ref (ad 3), .int hp2, .long bo2, .int (nI (su2 + 1)), .ref (ad 4), .ref (ad 5), .ref (ad 6), .int gh1_74, .int gv1_74, .int fo, .int bv, .long bc, .int nd, .int (nI lo), .ref (ad 7), .ref (ad 8), .ref (ad 9), .int (nI wa), .ref (ad 10), .ref (ad 11)])), (ad 1, .inl (cI, 40, .inl mt)), (ad 2, .inl (cI, 40, .inl mf)), (ad 3, .inl (cI, 40, .inl wt)), (ad 4, .inl (cL, 40, .inr (.inl (vp_updL ss2 su2 r_97)))), (ad 5, .inl (cZ, 40, .inl av3b)), (ad 6, .inl (cI, 10, .inl re1_74)), (ad 7, .inl (cI, 1024, .inl lh)), (ad 8, .inl (cI, 1024, .inl lw)), (ad 9, .inl (cL, 1024, .inr (.inl lb))), (ad 10, .inl (cI, 24, .inl wh)), (ad 11, .inl (cI, 24, .inl wv))] H → va_S (xA ad [0, 1, 2, 3, 4, 5, 6, 7, 8, 9, 10, 11]) s.heap H locs → lv_has ls 9 [(0, .ref (ad 0)), (1, .int hv), (2, .int vl), (5, .long r_97), (7, .int le3b)] → W p l e (headSpec wsX4_reckon ({ frames := 4, cells := 0, slots := 0, locals := 93 })).room s m [.ref (ad 0), .int hv, .int vl].toArray below meth c H locs 0 0 (MQ below (va_Qv (fun u => m_reckon nv nc mt mf wt hp bo su ss av re gh gv hv vl = some u) (xB (dC, dI) vwCl (fun (u : Int32 × Int64 × Nat × (Nat → Int64) × (Nat → Int32) × (Nat → Int32) × Int32 × Int32) => match u with | (hp1, bo1, su1, ss1, av1, re1, gh1, gv1) => [(ad 0, .inr (4, [.int co, .int (nI nv), .int (nI nc), .ref (ad 1), .ref (ad 2), .ref (ad 3), .int hp1, .long bo1, .int (nI su1), .ref (ad 4), .ref (ad 5), .ref (ad 6), .int gh1, .int gv1, .int fo, .int bv, .long bc, .int nd, .int (nI lo), .ref (ad 7), .ref (ad 8), .ref (ad 9), .int (nI wa), .ref (ad 10), .ref (ad 11)])), (ad 1, .inl (cI, 40, .inl mt)), (ad 2, .inl (cI, 40, .inl mf)), (ad 3, .inl (cI, 40, .inl wt)), (ad 4, .inl (cL, 40, .inr (.inl ss1))), (ad 5, .inl (cZ, 40, .inl av1)), (ad 6, .inl (cI, 10, .inl re1)), (ad 7, .inl (cI, 1024, .inl lh)), (ad 8, .inl (cI, 1024, .inl lw)), (ad 9, .inl (cL, 1024, .inr (.inl lb))), (ad 10, .inl (cI, 24, .inl wh)), (ad 11, .inl (cI, 24, .inl wv))])) (xA ad [0, 1, 2, 3, 4, 5, 6, 7, 8, 9, 10, 11])) [.ref (ad 0), .int hv, .int vl].toArray s 0 0 (xA ad [0, 1, 2, 3, 4, 5, 6, 7, 8, 9, 10, 11])) (F0 m 205 ls [])) → W p l e (headSpec wsX4_reckon ({ frames := 4, cells := 0, slots := 0, locals := 93 })).room s m [.ref (ad 0), .int hv, .int vl].toArray below meth c H locs 0 0 (MQ below (va_Qv (fun u => m_reckon nv nc mt mf wt hp bo su ss av re gh gv hv vl = some u) (xB (dC, dI) vwCl (fun (u : Int32 × Int64 × Nat × (Nat → Int64) × (Nat → Int32) × (Nat → Int32) × Int32 × Int32) => match u with | (hp1, bo1, su1, ss1, av1, re1, gh1, gv1) => [(ad 0, .inr (4, [.int co, .int (nI nv), .int (nI nc), .ref (ad 1), .ref (ad 2), .ref (ad 3), .int hp1, .long bo1, .int (nI su1), .ref (ad 4), .ref (ad 5), .ref (ad 6), .int gh1, .int gv1, .int fo, .int bv, .long bc, .int nd, .int (nI lo), .ref (ad 7), .ref (ad 8), .ref (ad 9), .int (nI wa), .ref (ad 10), .ref (ad 11)])), (ad 1, .inl (cI, 40, .inl mt)), (ad 2, .inl (cI, 40, .inl mf)), (ad 3, .inl (cI, 40, .inl wt)), (ad 4, .inl (cL, 40, .inr (.inl ss1))), (ad 5, .inl (cZ, 40, .inl av1)), (ad 6, .inl (cI, 10, .inl re1)), (ad 7, .inl (cI, 1024, .inl lh)), (ad 8, .inl (cI, 1024, .inl lw)), (ad 9, .inl (cL, 1024, .inr (.inl lb))), (ad 10, .inl (cI, 24, .inl wh)), (ad 11, .inl (cI, 24, .inl wv))])) (xA ad [0, 1, 2, 3, 4, 5, 6, 7, 8, 9, 10, 11])) [.ref (ad 0), .int hv, .int vl].toArray s 0 0 (xA ad [0, 1, 2, 3, 4, 5, 6, 7, 8, 9, 10, 11])) (F0 m 129 ls []) := by
              intro n
              induction n with
              | zero =>
                intro i le3 av3 le3b av3b H locs ls hF hil hP hS hl hkx
                rw [m_reckon_B] at hF
                refine lv_iload hx hb dX4_reckon_129 (lv_at hl 5 rfl) ?_
                refine lv_aload_n hx hb dX4_reckon_131 rfl (lv_at hl 0 rfl) ?_
                refine va_get (D := (dC, dI)) (ci := 4) (v := .int (nI nc)) (C := RX4) (T := TX4) (N := 25) hx hb hts (xcons inX4) hown hK hP 0 rfl rfl 2 (by decide) hw3 (fun _ h9 => h9) rfl dX4_reckon_132 ?_
                refine lv_icmp_ge (tgt := 205) hx hb dX4_reckon_135 (by decide) (fun h10 => ?_) (fun h10 => absurd (nI_le (by omega) (by omega)) h10)
                simp only [Prod.mk.injEq] at hF
                obtain ⟨rfl, rfl⟩ := hF
                exact hkx _ _ _ hP hS (lv_sub hl [0, 1, 2, 3, 4] rfl)
              | succ n ih =>
                intro i le3 av3 le3b av3b H locs ls hF hil hP hS hl hkx
                rw [m_reckon_B] at hF
                refine lv_iload hx hb dX4_reckon_129 (lv_at hl 5 rfl) ?_
                refine lv_aload_n hx hb dX4_reckon_131 rfl (lv_at hl 0 rfl) ?_
                refine va_get (D := (dC, dI)) (ci := 4) (v := .int (nI nc)) (C := RX4) (T := TX4) (N := 25) hx hb hts (xcons inX4) hown hK hP 0 rfl rfl 2 (by decide) hw3 (fun _ h9 => h9) rfl dX4_reckon_132 ?_
                refine lv_icmp_ge (tgt := 205) hx hb dX4_reckon_135 (by decide) (fun h11 => absurd h11 (nI_ge (by omega) (by omega))) (fun h11 => ?_)
                refine lv_lload hx hb dX4_reckon_138 (lv_at hl 3 rfl) ?_
                refine lv_iload hx hb dX4_reckon_140 (lv_at hl 5 rfl) ?_
                refine lv_lshr (v := (r_97 >>> ((nI i).toInt64 &&& 63))) hx hb dX4_reckon_142 rfl ?_
                refine lv_lconst (v := 1) hx hb dX4_reckon_143 (by decide) ?_
                refine lv_land hx hb dX4_reckon_144 ?_
                refine lv_lconst (v := 1) hx hb dX4_reckon_145 (by decide) ?_
                refine W.lcmp hx hb dX4_reckon_146 ?_
                refine lv_if_ne (tgt := 199) hx hb dX4_reckon_147 (by decide) (fun h12 => ?_) (fun h12 => ?_)
                · have hF := hF.trans (if_neg h12)
                  refine lv_iinc (k := 5) (v := (nI (i + 1))) (lv' := [(8, .int (nI (i + 1))), (0, .ref (ad 0)), (1, .int hv), (2, .int vl), (5, .long r_97), (7, .int le3)]) hx hb dX4_reckon_199 hl rfl (xinc _) (by decide) rfl (fun ls hl => ?_)
                  refine lv_goto (tgt := 129) hx hb dX4_reckon_202 (by decide) ?_
                  exact ih (i + 1) le3 av3 le3b av3b _ _ _ hF (by omega) hP hS (lv_sub hl [1, 2, 3, 4, 5, 0] rfl) hkx
                · have hF := hF.trans (if_pos h12)
                  refine lv_aload_n hx hb dX4_reckon_150 rfl (lv_at hl 0 rfl) ?_
                  refine va_get (D := (dC, dI)) (ci := 4) (v := .ref (ad 5)) (C := RX4) (T := TX4) (N := 25) hx hb hts (xcons inX4) hown hK hP 0 rfl rfl 10 (by decide) hw4 (fun _ h9 => h9) rfl dX4_reckon_151 ?_
                  refine lv_iload hx hb dX4_reckon_154 (lv_at hl 5 rfl) ?_
                  refine lv_iconst (v := 0) hx hb dX4_reckon_156 (by decide) ?_
                  refine xr_zast hx hb hK hP (xD hinj [0, 1, 2, 3, 4, 5, 6, 7, 8, 9, 10, 11] rfl (by decide) (by decide)) hS 5 2 rfl rfl i (by omega) (by omega) dX4_reckon_157 (fun H locs hP hS => ?_)
                  have hP : va_P (dC, dI) vwCl [(ad 0, .inr (4, [.int co, .int (nI nv), .int (nI nc), .ref (ad 1), .ref (ad 2), .ref (ad 3), .int hp2, .long bo2, .int (nI (su2 + 1)), .ref (ad 4), .ref (ad 5), .ref (ad 6), .int gh1_74, .int gv1_74, .int fo, .int bv, .long bc, .int nd, .int (nI lo), .ref (ad 7), .ref (ad 8), .ref (ad 9), .int (nI wa), .ref (ad 10), .ref (ad 11)])), (ad 1, .inl (cI, 40, .inl mt)), (ad 2, .inl (cI, 40, .inl mf)), (ad 3, .inl (cI, 40, .inl wt)), (ad 4, .inl (cL, 40, .inr (.inl (vp_updL ss2 su2 r_97)))), (ad 5, .inl (cZ, 40, .inl (upd av3 i (vp_nar .boolean 0)))), (ad 6, .inl (cI, 10, .inl re1_74)), (ad 7, .inl (cI, 1024, .inl lh)), (ad 8, .inl (cI, 1024, .inl lw)), (ad 9, .inl (cL, 1024, .inr (.inl lb))), (ad 10, .inl (cI, 24, .inl wh)), (ad 11, .inl (cI, 24, .inl wv))] H := hP
                  refine lv_aload_n hx hb dX4_reckon_158 rfl (lv_at hl 0 rfl) ?_
                  refine va_get (D := (dC, dI)) (ci := 4) (v := .ref (ad 3)) (C := RX4) (T := TX4) (N := 25) hx hb hts (xcons inX4) hown hK hP 0 rfl rfl 5 (by decide) hw6 (fun _ h9 => h9) rfl dX4_reckon_159 ?_
                  refine lv_iload hx hb dX4_reckon_162 (lv_at hl 5 rfl) ?_
                  refine xr_iald hx hb hK hP 3 0 rfl rfl i (by omega) (by omega) dX4_reckon_164 ?_
                  refine lv_if_le (tgt := 195) hx hb dX4_reckon_165 (by decide) (fun h13 => ?_) (fun h13 => ?_)
                  · have hF := hF.trans (if_pos h13)
                    refine lv_iload hx hb dX4_reckon_195 (lv_at hl 4 rfl) ?_
                    refine lv_istore (lv' := [(7, .int le3), (0, .ref (ad 0)), (1, .int hv), (2, .int vl), (5, .long r_97), (8, .int (nI i))]) hx hb dX4_reckon_197 hl (by decide) rfl (fun ls hl => ?_)
                    refine lv_iinc (k := 5) (v := (nI (i + 1))) (lv' := [(8, .int (nI (i + 1))), (7, .int le3), (0, .ref (ad 0)), (1, .int hv), (2, .int vl), (5, .long r_97)]) hx hb dX4_reckon_199 hl rfl (xinc _) (by decide) rfl (fun ls hl => ?_)
                    refine lv_goto (tgt := 129) hx hb dX4_reckon_202 (by decide) ?_
                    exact ih (i + 1) le3 (upd av3 i (vp_nar .boolean 0)) le3b av3b _ _ _ hF (by omega) hP hS (lv_sub hl [2, 3, 4, 5, 1, 0] rfl) hkx
                  · have hF := hF.trans (if_neg h13)
                    refine lv_iload hx hb dX4_reckon_168 (lv_at hl 4 rfl) ?_
                    refine lv_if_eq (tgt := 185) hx hb dX4_reckon_170 (by decide) (fun h14 => ?_) (fun h14 => ?_)
                    · have hF := hF.trans (if_pos h14)
                      refine lv_aload_n hx hb dX4_reckon_185 rfl (lv_at hl 0 rfl) ?_
                      refine va_get (D := (dC, dI)) (ci := 4) (v := .ref (ad 3)) (C := RX4) (T := TX4) (N := 25) hx hb hts (xcons inX4) hown hK hP 0 rfl rfl 5 (by decide) hw6 (fun _ h9 => h9) rfl dX4_reckon_186 ?_
                      refine lv_iload hx hb dX4_reckon_189 (lv_at hl 5 rfl) ?_
                      refine xr_iald hx hb hK hP 3 0 rfl rfl i (by omega) (by omega) dX4_reckon_191 ?_
                      refine lv_goto (tgt := 197) hx hb dX4_reckon_192 (by decide) ?_
                      refine lv_istore (lv' := [(7, .int (wt i)), (0, .ref (ad 0)), (1, .int hv), (2, .int vl), (5, .long r_97), (8, .int (nI i))]) hx hb dX4_reckon_197 hl (by decide) rfl (fun ls hl => ?_)
                      refine lv_iinc (k := 5) (v := (nI (i + 1))) (lv' := [(8, .int (nI (i + 1))), (7, .int (wt i)), (0, .ref (ad 0)), (1, .int hv), (2, .int vl), (5, .long r_97)]) hx hb dX4_reckon_199 hl rfl (xinc _) (by decide) rfl (fun ls hl => ?_)
                      refine lv_goto (tgt := 129) hx hb dX4_reckon_202 (by decide) ?_
                      exact ih (i + 1) (wt i) (upd av3 i (vp_nar .boolean 0)) le3b av3b _ _ _ hF (by omega) hP hS (lv_sub hl [2, 3, 4, 5, 1, 0] rfl) hkx
                    · have hF := hF.trans (if_neg h14)
                      refine lv_aload_n hx hb dX4_reckon_173 rfl (lv_at hl 0 rfl) ?_
                      refine va_get (D := (dC, dI)) (ci := 4) (v := .ref (ad 3)) (C := RX4) (T := TX4) (N := 25) hx hb hts (xcons inX4) hown hK hP 0 rfl rfl 5 (by decide) hw6 (fun _ h9 => h9) rfl dX4_reckon_174 ?_
                      refine lv_iload hx hb dX4_reckon_177 (lv_at hl 5 rfl) ?_
                      refine xr_iald hx hb hK hP 3 0 rfl rfl i (by omega) (by omega) dX4_reckon_179 ?_
                      refine lv_iload hx hb dX4_reckon_180 (lv_at hl 4 rfl) ?_
                      refine lv_icmp_ge (tgt := 195) hx hb dX4_reckon_182 (by decide) (fun h15 => ?_) (fun h15 => ?_)
                      · have hF := hF.trans (if_pos h15)
                        refine lv_iload hx hb dX4_reckon_195 (lv_at hl 4 rfl) ?_
                        refine lv_istore (lv' := [(7, .int le3), (0, .ref (ad 0)), (1, .int hv), (2, .int vl), (5, .long r_97), (8, .int (nI i))]) hx hb dX4_reckon_197 hl (by decide) rfl (fun ls hl => ?_)
                        refine lv_iinc (k := 5) (v := (nI (i + 1))) (lv' := [(8, .int (nI (i + 1))), (7, .int le3), (0, .ref (ad 0)), (1, .int hv), (2, .int vl), (5, .long r_97)]) hx hb dX4_reckon_199 hl rfl (xinc _) (by decide) rfl (fun ls hl => ?_)
                        refine lv_goto (tgt := 129) hx hb dX4_reckon_202 (by decide) ?_
                        exact ih (i + 1) le3 (upd av3 i (vp_nar .boolean 0)) le3b av3b _ _ _ hF (by omega) hP hS (lv_sub hl [2, 3, 4, 5, 1, 0] rfl) hkx
                      · have hF := hF.trans (if_neg h15)
                        refine lv_aload_n hx hb dX4_reckon_185 rfl (lv_at hl 0 rfl) ?_
                        refine va_get (D := (dC, dI)) (ci := 4) (v := .ref (ad 3)) (C := RX4) (T := TX4) (N := 25) hx hb hts (xcons inX4) hown hK hP 0 rfl rfl 5 (by decide) hw6 (fun _ h9 => h9) rfl dX4_reckon_186 ?_
                        refine lv_iload hx hb dX4_reckon_189 (lv_at hl 5 rfl) ?_
                        refine xr_iald hx hb hK hP 3 0 rfl rfl i (by omega) (by omega) dX4_reckon_191 ?_
                        refine lv_goto (tgt := 197) hx hb dX4_reckon_192 (by decide) ?_
                        refine lv_istore (lv' := [(7, .int (wt i)), (0, .ref (ad 0)), (1, .int hv), (2, .int vl), (5, .long r_97), (8, .int (nI i))]) hx hb dX4_reckon_197 hl (by decide) rfl (fun ls hl => ?_)
                        refine lv_iinc (k := 5) (v := (nI (i + 1))) (lv' := [(8, .int (nI (i + 1))), (7, .int (wt i)), (0, .ref (ad 0)), (1, .int hv), (2, .int vl), (5, .long r_97)]) hx hb dX4_reckon_199 hl rfl (xinc _) (by decide) rfl (fun ls hl => ?_)
                        refine lv_goto (tgt := 129) hx hb dX4_reckon_202 (by decide) ?_
                        exact ih (i + 1) (wt i) (upd av3 i (vp_nar .boolean 0)) le3b av3b _ _ _ hF (by omega) hP hS (lv_sub hl [2, 3, 4, 5, 1, 0] rfl) hkx
            obtain ⟨le3b, av3b, hq129⟩ : ∃ (le3b : Int32) (av3b : (Nat → Int32)), (le3b, av3b) = m_reckon_B wt r_97 nc 0 0 av2 := ⟨_, _, rfl⟩
            rw [← hq129] at hF
            try dsimp only at hF
            refine lp129 nc 0 0 av2 le3b av3b _ _ _ hq129 (by omega) hP hS (lv_sub hl [5, 6, 7, 2, 1, 0] rfl) (fun H locs ls hP hS hl => ?_)
            refine lv_aload_n hx hb dX4_reckon_205 rfl (lv_at hl 0 rfl) ?_
            refine lv_iload hx hb dX4_reckon_206 (lv_at hl 4 rfl) ?_
            refine lv_if_ne (tgt := 215) hx hb dX4_reckon_208 (by decide) (fun h16 => ?_) (fun h16 => ?_)
            · have hF := hF.trans (if_neg h16)
              refine lv_iconst (v := 0) hx hb dX4_reckon_215 (by decide) ?_
              refine va_put (D := (dC, dI)) (ci := 4) (v := .int 0) (ty := .boolean) (C := RX4) (T := TX4) (N := 25) hx hb hts (xcons inX4) tyX4 tyX4_ok nX4 hown hK hP (xD hinj [0, 1, 2, 3, 4, 5, 6, 7, 8, 9, 10, 11] rfl (by decide) (by decide)) hS 0 rfl rfl 6 (by decide) hw1 (fun _ h9 => h9) rfl (by decide +kernel) rfl rfl (Nat.le_of_ble_eq_true rfl) dX4_reckon_216 (fun H locs hP _ hS => ?_)
              have hP : va_P (dC, dI) vwCl [(ad 0, .inr (4, [.int co, .int (nI nv), .int (nI nc), .ref (ad 1), .ref (ad 2), .ref (ad 3), .int 0, .long bo2, .int (nI (su2 + 1)), .ref (ad 4), .ref (ad 5), .ref (ad 6), .int gh1_74, .int gv1_74, .int fo, .int bv, .long bc, .int nd, .int (nI lo), .ref (ad 7), .ref (ad 8), .ref (ad 9), .int (nI wa), .ref (ad 10), .ref (ad 11)])), (ad 1, .inl (cI, 40, .inl mt)), (ad 2, .inl (cI, 40, .inl mf)), (ad 3, .inl (cI, 40, .inl wt)), (ad 4, .inl (cL, 40, .inr (.inl (vp_updL ss2 su2 r_97)))), (ad 5, .inl (cZ, 40, .inl av3b)), (ad 6, .inl (cI, 10, .inl re1_74)), (ad 7, .inl (cI, 1024, .inl lh)), (ad 8, .inl (cI, 1024, .inl lw)), (ad 9, .inl (cL, 1024, .inr (.inl lb))), (ad 10, .inl (cI, 24, .inl wh)), (ad 11, .inl (cI, 24, .inl wv))] H := hP
              refine lv_aload_n hx hb dX4_reckon_219 rfl (lv_at hl 0 rfl) ?_
              refine lv_dup hx hb dX4_reckon_220 rfl ?_
              refine va_get (D := (dC, dI)) (ci := 4) (v := .long bo2) (C := RX4) (T := TX4) (N := 25) hx hb hts (xcons inX4) hown hK hP 0 rfl rfl 7 (by decide) hw2 (fun _ h9 => h9) rfl dX4_reckon_221 ?_
              refine lv_iload hx hb dX4_reckon_224 (lv_at hl 4 rfl) ?_
              refine lv_i2l (v := le3b.toInt64) hx hb dX4_reckon_226 rfl ?_
              refine lv_ladd hx hb dX4_reckon_227 ?_
              refine va_put (D := (dC, dI)) (ci := 4) (v := .long (bo2 + le3b.toInt64)) (ty := .long) (C := RX4) (T := TX4) (N := 25) hx hb hts (xcons inX4) tyX4 tyX4_ok nX4 hown hK hP (xD hinj [0, 1, 2, 3, 4, 5, 6, 7, 8, 9, 10, 11] rfl (by decide) (by decide)) hS 0 rfl rfl 7 (by decide) hw2 (fun _ h9 => h9) rfl (by decide +kernel) rfl rfl (Nat.le_of_ble_eq_true rfl) dX4_reckon_228 (fun H locs hP _ hS => ?_)
              have hP : va_P (dC, dI) vwCl [(ad 0, .inr (4, [.int co, .int (nI nv), .int (nI nc), .ref (ad 1), .ref (ad 2), .ref (ad 3), .int 0, .long (bo2 + le3b.toInt64), .int (nI (su2 + 1)), .ref (ad 4), .ref (ad 5), .ref (ad 6), .int gh1_74, .int gv1_74, .int fo, .int bv, .long bc, .int nd, .int (nI lo), .ref (ad 7), .ref (ad 8), .ref (ad 9), .int (nI wa), .ref (ad 10), .ref (ad 11)])), (ad 1, .inl (cI, 40, .inl mt)), (ad 2, .inl (cI, 40, .inl mf)), (ad 3, .inl (cI, 40, .inl wt)), (ad 4, .inl (cL, 40, .inr (.inl (vp_updL ss2 su2 r_97)))), (ad 5, .inl (cZ, 40, .inl av3b)), (ad 6, .inl (cI, 10, .inl re1_74)), (ad 7, .inl (cI, 1024, .inl lh)), (ad 8, .inl (cI, 1024, .inl lw)), (ad 9, .inl (cL, 1024, .inr (.inl lb))), (ad 10, .inl (cI, 24, .inl wh)), (ad 11, .inl (cI, 24, .inl wv))] H := hP
              refine lv_aload_n hx hb dX4_reckon_231 rfl (lv_at hl 0 rfl) ?_
              refine va_get (D := (dC, dI)) (ci := 4) (v := .int 0) (C := RX4) (T := TX4) (N := 25) hx hb hts (xcons inX4) hown hK hP 0 rfl rfl 6 (by decide) hw1 (fun _ h9 => h9) rfl dX4_reckon_232 ?_
              refine lv_if_ne (tgt := 242) hx hb dX4_reckon_235 (by decide) (fun h17 => absurd (by decide) h17) (fun h17 => ?_)
              refine lv_iconst (v := 1) hx hb dX4_reckon_238 (by decide) ?_
              refine lv_goto (tgt := 243) hx hb dX4_reckon_239 (by decide) ?_
              refine lv_istore_n (lv' := [(3, .int 1), (0, .ref (ad 0)), (1, .int hv), (2, .int vl), (5, .long r_97), (7, .int le3b)]) hx hb dX4_reckon_243 rfl hl (by decide) rfl (fun ls hl => ?_)
              refine lv_goto (tgt := 67) hx hb dX4_reckon_244 (by decide) ?_
              exact ih 1 0 (bo2 + le3b.toInt64) (su2 + 1) (vp_updL ss2 su2 r_97) av3b re1_74 gh1_74 gv1_74 _ _ _ hF  hP hS (lv_sub hl [1, 2, 3, 0] rfl)
            · have hF := hF.trans (if_pos h16)
              refine lv_iconst (v := 1) hx hb dX4_reckon_211 (by decide) ?_
              refine lv_goto (tgt := 216) hx hb dX4_reckon_212 (by decide) ?_
              refine va_put (D := (dC, dI)) (ci := 4) (v := .int 1) (ty := .boolean) (C := RX4) (T := TX4) (N := 25) hx hb hts (xcons inX4) tyX4 tyX4_ok nX4 hown hK hP (xD hinj [0, 1, 2, 3, 4, 5, 6, 7, 8, 9, 10, 11] rfl (by decide) (by decide)) hS 0 rfl rfl 6 (by decide) hw1 (fun _ h9 => h9) rfl (by decide +kernel) rfl rfl (Nat.le_of_ble_eq_true rfl) dX4_reckon_216 (fun H locs hP _ hS => ?_)
              have hP : va_P (dC, dI) vwCl [(ad 0, .inr (4, [.int co, .int (nI nv), .int (nI nc), .ref (ad 1), .ref (ad 2), .ref (ad 3), .int 1, .long bo2, .int (nI (su2 + 1)), .ref (ad 4), .ref (ad 5), .ref (ad 6), .int gh1_74, .int gv1_74, .int fo, .int bv, .long bc, .int nd, .int (nI lo), .ref (ad 7), .ref (ad 8), .ref (ad 9), .int (nI wa), .ref (ad 10), .ref (ad 11)])), (ad 1, .inl (cI, 40, .inl mt)), (ad 2, .inl (cI, 40, .inl mf)), (ad 3, .inl (cI, 40, .inl wt)), (ad 4, .inl (cL, 40, .inr (.inl (vp_updL ss2 su2 r_97)))), (ad 5, .inl (cZ, 40, .inl av3b)), (ad 6, .inl (cI, 10, .inl re1_74)), (ad 7, .inl (cI, 1024, .inl lh)), (ad 8, .inl (cI, 1024, .inl lw)), (ad 9, .inl (cL, 1024, .inr (.inl lb))), (ad 10, .inl (cI, 24, .inl wh)), (ad 11, .inl (cI, 24, .inl wv))] H := hP
              refine lv_aload_n hx hb dX4_reckon_219 rfl (lv_at hl 0 rfl) ?_
              refine lv_dup hx hb dX4_reckon_220 rfl ?_
              refine va_get (D := (dC, dI)) (ci := 4) (v := .long bo2) (C := RX4) (T := TX4) (N := 25) hx hb hts (xcons inX4) hown hK hP 0 rfl rfl 7 (by decide) hw2 (fun _ h9 => h9) rfl dX4_reckon_221 ?_
              refine lv_iload hx hb dX4_reckon_224 (lv_at hl 4 rfl) ?_
              refine lv_i2l (v := le3b.toInt64) hx hb dX4_reckon_226 rfl ?_
              refine lv_ladd hx hb dX4_reckon_227 ?_
              refine va_put (D := (dC, dI)) (ci := 4) (v := .long (bo2 + le3b.toInt64)) (ty := .long) (C := RX4) (T := TX4) (N := 25) hx hb hts (xcons inX4) tyX4 tyX4_ok nX4 hown hK hP (xD hinj [0, 1, 2, 3, 4, 5, 6, 7, 8, 9, 10, 11] rfl (by decide) (by decide)) hS 0 rfl rfl 7 (by decide) hw2 (fun _ h9 => h9) rfl (by decide +kernel) rfl rfl (Nat.le_of_ble_eq_true rfl) dX4_reckon_228 (fun H locs hP _ hS => ?_)
              have hP : va_P (dC, dI) vwCl [(ad 0, .inr (4, [.int co, .int (nI nv), .int (nI nc), .ref (ad 1), .ref (ad 2), .ref (ad 3), .int 1, .long (bo2 + le3b.toInt64), .int (nI (su2 + 1)), .ref (ad 4), .ref (ad 5), .ref (ad 6), .int gh1_74, .int gv1_74, .int fo, .int bv, .long bc, .int nd, .int (nI lo), .ref (ad 7), .ref (ad 8), .ref (ad 9), .int (nI wa), .ref (ad 10), .ref (ad 11)])), (ad 1, .inl (cI, 40, .inl mt)), (ad 2, .inl (cI, 40, .inl mf)), (ad 3, .inl (cI, 40, .inl wt)), (ad 4, .inl (cL, 40, .inr (.inl (vp_updL ss2 su2 r_97)))), (ad 5, .inl (cZ, 40, .inl av3b)), (ad 6, .inl (cI, 10, .inl re1_74)), (ad 7, .inl (cI, 1024, .inl lh)), (ad 8, .inl (cI, 1024, .inl lw)), (ad 9, .inl (cL, 1024, .inr (.inl lb))), (ad 10, .inl (cI, 24, .inl wh)), (ad 11, .inl (cI, 24, .inl wv))] H := hP
              refine lv_aload_n hx hb dX4_reckon_231 rfl (lv_at hl 0 rfl) ?_
              refine va_get (D := (dC, dI)) (ci := 4) (v := .int 1) (C := RX4) (T := TX4) (N := 25) hx hb hts (xcons inX4) hown hK hP 0 rfl rfl 6 (by decide) hw1 (fun _ h9 => h9) rfl dX4_reckon_232 ?_
              refine lv_if_ne (tgt := 242) hx hb dX4_reckon_235 (by decide) (fun h18 => ?_) (fun h18 => absurd h18 (by decide))
              refine lv_iconst (v := 0) hx hb dX4_reckon_242 (by decide) ?_
              refine lv_istore_n (lv' := [(3, .int 0), (0, .ref (ad 0)), (1, .int hv), (2, .int vl), (5, .long r_97), (7, .int le3b)]) hx hb dX4_reckon_243 rfl hl (by decide) rfl (fun ls hl => ?_)
              refine lv_goto (tgt := 67) hx hb dX4_reckon_244 (by decide) ?_
              exact ih 0 1 (bo2 + le3b.toInt64) (su2 + 1) (vp_updL ss2 su2 r_97) av3b re1_74 gh1_74 gv1_74 _ _ _ hF  hP hS (lv_sub hl [1, 2, 3, 0] rfl)
    exact lp67 42 ((if (m_breaks nc mt mf wt hv vl) = 0 then 1 else 0) : Int32) (m_breaks nc mt mf wt hv vl) (m_costOf nc mt mf wt hv vl) 0 ss av2a re gh gv _ _ _ hF  hP hS (lv_sub hl [1, 2, 3, 0] rfl)
  refine lv_if_ne (tgt := 65) hx hb dX4_reckon_58 (by decide) (fun h19 => ?_) (fun h19 => ?_)
  ·
    refine lv_iconst (v := 0) hx hb dX4_reckon_65 (by decide) ?_
    have hJ9 := hJ58 _ _ hP hS
    have hv9 : ((if (m_breaks nc mt mf wt hv vl) = 0 then 1 else 0) : Int32) = 0 := if_neg h19
    rw [hv9] at hJ9
    exact hJ9
  ·
    refine lv_iconst (v := 1) hx hb dX4_reckon_61 (by decide) ?_
    refine lv_goto (tgt := 66) hx hb dX4_reckon_62 (by decide) ?_
    have hJ9 := hJ58 _ _ hP hS
    have hv9 : ((if (m_breaks nc mt mf wt hv vl) = 0 then 1 else 0) : Int32) = 1 := if_pos h19
    rw [hv9] at hJ9
    exact hJ9
