def m_variables (nv : Nat) : Int32 × Int32 :=
  ((nI nv), 0)
def m_clauses (nc : Nat) : Int32 × Int32 :=
  ((nI nc), 0)
def m_nodes (nd : Int32) : Int32 × Int32 :=
  (nd, 0)
def m_logged (lo : Nat) : Int32 × Int32 :=
  ((nI lo), 0)
def m_value (nv : Nat) (fo bv v : Int32) : Int32 × Int32 :=
  if v < 0 then
    ((-1), 0)
  else
    if (nI nv) ≤ v then
      ((-1), 0)
    else
      if fo = 0 then
        ((-1), 0)
      else
        (((bv >>> (v &&& 31)) &&& 1), 0)
def m_log (lo : Nat) (lh lw : Nat → Int32) (k what : Int32) : Int32 × Int32 :=
  if k < 0 then
    ((-1), 0)
  else
    if (nI lo) ≤ k then
      ((-1), 0)
    else
      if what < 0 then
        ((-1), 0)
      else
        if what ≤ 1 then
          if what = 0 then
            ((lh k.toNatClampNeg), 0)
          else
            ((lw k.toNatClampNeg), 0)
        else
          ((-1), 0)
def m_best (lo : Nat) (lb : Nat → Int64) (k : Int32) : Int64 × Int32 :=
  if k < 0 then
    ((-1), 0)
  else
    if k < (nI lo) then
      ((lb k.toNatClampNeg), 0)
    else
      ((-1), 0)
def m_drop (nc : Nat) (fo : Int32) (nd : Int32) (lo : Nat) : Int32 × Int32 × Nat × Int32 × Int32 × Nat :=
  if (nI nc) = 0 then
    ((-1), (0, nc, fo, nd, lo))
  else
    match m_forget with
    | (fo1_25, nd1_25, lo1_25) =>
      ((nI (nc - 1)), (0, (nc - 1), fo1_25, nd1_25, lo1_25))
def m_weigh (nc : Nat) (wt : (Nat → Int32)) (fo : Int32) (nd : Int32) (lo : Nat) (k w : Int32) : Int32 × Int32 × (Nat → Int32) × Int32 × Int32 × Nat :=
  if k < 0 then
    (0, (1, wt, fo, nd, lo))
  else
    if (nI nc) ≤ k then
      (0, (1, wt, fo, nd, lo))
    else
      if w < 0 then
        (0, (1, wt, fo, nd, lo))
      else
        if w ≤ 1000000 then
          match m_forget with
          | (fo1_55, nd1_55, lo1_55) =>
            ((wt k.toNatClampNeg), (0, (upd wt k.toNatClampNeg w), fo1_55, nd1_55, lo1_55))
        else
          (0, (1, wt, fo, nd, lo))
def m_cost (nv nc : Nat) (mt mf wt : Nat → Int32) (hv vl : Int32) : Int64 × Int32 :=
  if (m_noState nv hv vl) = 0 then
    if (m_breaks nc mt mf wt hv vl) = 0 then
      ((m_costOf nc mt mf wt hv vl), 0)
    else
      ((-2), 0)
  else
    (0, 1)
def m_first (nv nc : Nat) (mt mf : Nat → Int32) (hv vl : Int32) : Int32 × Int32 :=
  if (m_noState nv hv vl) = 0 then
    ((m_firstOf nv nc mt mf hv vl), 0)
  else
    (0, 1)
set_option maxHeartbeats 4000000 in
set_option maxRecDepth 100000 in
theorem k_variables (l : Launch) (dC : Nat → ClassId) (dI : Nat → Nat → Nat) (cI cL cZ : ClassId) (ad : Nat → Nat) (hinj : xI ad 12) (co : Int32) (nv : Nat) (nc : Nat) (mt : (Nat → Int32)) (mf : (Nat → Int32)) (wt : (Nat → Int32)) (hp : Int32) (bo : Int64) (su : Nat) (ss : (Nat → Int64)) (av : (Nat → Int32)) (re : (Nat → Int32)) (gh : Int32) (gv : Int32) (fo : Int32) (bv : Int32) (bc : Int64) (nd : Int32) (lo : Nat) (lh : (Nat → Int32)) (lw : (Nat → Int32)) (lb : (Nat → Int64)) (wa : Nat) (wh : (Nat → Int32)) (wv : (Nat → Int32)) : Met l yX4_variables wsX4_variables ({ frames := 0, cells := 0, slots := 0, locals := 0 }) (va_Pc [.ref (ad 0)] (fun U => va_P (dC, dI) vwCl [(ad 0, .inr (4, [.int co, .int (nI nv), .int (nI nc), .ref (ad 1), .ref (ad 2), .ref (ad 3), .int hp, .long bo, .int (nI su), .ref (ad 4), .ref (ad 5), .ref (ad 6), .int gh, .int gv, .int fo, .int bv, .long bc, .int nd, .int (nI lo), .ref (ad 7), .ref (ad 8), .ref (ad 9), .int (nI wa), .ref (ad 10), .ref (ad 11)])), (ad 1, .inl (cI, 40, .inl mt)), (ad 2, .inl (cI, 40, .inl mf)), (ad 3, .inl (cI, 40, .inl wt)), (ad 4, .inl (cL, 40, .inr (.inl ss))), (ad 5, .inl (cZ, 40, .inl av)), (ad 6, .inl (cI, 10, .inl re)), (ad 7, .inl (cI, 1024, .inl lh)), (ad 8, .inl (cI, 1024, .inl lw)), (ad 9, .inl (cL, 1024, .inr (.inl lb))), (ad 10, .inl (cI, 24, .inl wh)), (ad 11, .inl (cI, 24, .inl wv))] U.heap ∧ va_K (dC, dI) vwCl [(cI, .int), (cL, .long), (cZ, .boolean)] U)) (va_Qi (fun r u => m_variables nv = (r, u)) (xB (dC, dI) vwCl (fun (u : Int32) => match u with | co1 => [(ad 0, .inr (4, [.int co1, .int (nI nv), .int (nI nc), .ref (ad 1), .ref (ad 2), .ref (ad 3), .int hp, .long bo, .int (nI su), .ref (ad 4), .ref (ad 5), .ref (ad 6), .int gh, .int gv, .int fo, .int bv, .long bc, .int nd, .int (nI lo), .ref (ad 7), .ref (ad 8), .ref (ad 9), .int (nI wa), .ref (ad 10), .ref (ad 11)])), (ad 1, .inl (cI, 40, .inl mt)), (ad 2, .inl (cI, 40, .inl mf)), (ad 3, .inl (cI, 40, .inl wt)), (ad 4, .inl (cL, 40, .inr (.inl ss))), (ad 5, .inl (cZ, 40, .inl av)), (ad 6, .inl (cI, 10, .inl re)), (ad 7, .inl (cI, 1024, .inl lh)), (ad 8, .inl (cI, 1024, .inl lw)), (ad 9, .inl (cL, 1024, .inr (.inl lb))), (ad 10, .inl (cI, 24, .inl wh)), (ad 11, .inl (cI, 24, .inl wv))])) (xA ad [0, 1, 2, 3, 4, 5, 6, 7, 8, 9, 10, 11])) 0 0 (xA ad [0, 1, 2, 3, 4, 5, 6, 7, 8, 9, 10, 11]) := by
  refine Met.ofW (cc := cX4_variables) (maxL := 1) (ret := (some .int)) (by decide) rfl ?_
  intro p e s m args below meth c s₁ B hml hvv
  obtain ⟨rfl, hP0, hK⟩ := hvv
  have hx := B.exec
  have hb := B.bytes
  have hr := B.returns
  have hts := atoms_spec (ws := wsX4_variables) B.pre
  have hown : s.vm.findClass RX4 = some m.cls := findClass_of_methodNamed B.named
  have hlocks := B.notSynchronized
  have hw0 : (.fieldLink RX4 49 "WeightedClausesModel" "code" "I" : Cond).before _ s = true := hts _ (List.mem_cons_of_mem _ wd_530)
  have hw1 : (.fieldLink RX4 45 "WeightedClausesModel" "variables" "I" : Cond).before _ s = true := hts _ (List.mem_cons_of_mem _ wd_531)
  have hP : va_P (dC, dI) vwCl [(ad 0, .inr (4, [.int co, .int (nI nv), .int (nI nc), .ref (ad 1), .ref (ad 2), .ref (ad 3), .int hp, .long bo, .int (nI su), .ref (ad 4), .ref (ad 5), .ref (ad 6), .int gh, .int gv, .int fo, .int bv, .long bc, .int nd, .int (nI lo), .ref (ad 7), .ref (ad 8), .ref (ad 9), .int (nI wa), .ref (ad 10), .ref (ad 11)])), (ad 1, .inl (cI, 40, .inl mt)), (ad 2, .inl (cI, 40, .inl mf)), (ad 3, .inl (cI, 40, .inl wt)), (ad 4, .inl (cL, 40, .inr (.inl ss))), (ad 5, .inl (cZ, 40, .inl av)), (ad 6, .inl (cI, 10, .inl re)), (ad 7, .inl (cI, 1024, .inl lh)), (ad 8, .inl (cI, 1024, .inl lw)), (ad 9, .inl (cL, 1024, .inr (.inl lb))), (ad 10, .inl (cI, 24, .inl wh)), (ad 11, .inl (cI, 24, .inl wv))] s.heap := hP0.sub [0, 1, 2, 3, 4, 5, 6, 7, 8, 9, 10, 11] rfl
  have hS : va_S (xA ad [0, 1, 2, 3, 4, 5, 6, 7, 8, 9, 10, 11]) s.heap s.heap [] := va_S.rf
  have hl := lv_entry [.ref (ad 0)] (n := 1) (Nat.le_of_ble_eq_true rfl)
  rw [lg_entry_eq]
  generalize (lg_sl [.ref (ad 0)] ++ List.replicate (1 - (lg_sl [.ref (ad 0)]).length) Slot.unset).toArray = ls at hl ⊢
  have hl : lv_has ls 1 [(0, .ref (ad 0))] := hl
  have hF := Eq.refl (m_variables nv)
  conv at hF => rhs; unfold m_variables
  refine lv_aload_n hx hb dX4_variables_0 rfl (lv_at hl 0 rfl) ?_
  refine lv_iconst (v := 0) hx hb dX4_variables_1 (by decide) ?_
  refine va_put (D := (dC, dI)) (ci := 4) (v := .int 0) (ty := .int) (C := RX4) (T := TX4) (N := 25) hx hb hts (xcons inX4) tyX4 tyX4_ok nX4 hown hK hP (xD hinj [0, 1, 2, 3, 4, 5, 6, 7, 8, 9, 10, 11] rfl (by decide) (by decide)) hS 0 rfl rfl 0 (by decide) hw0 (fun _ h9 => h9) rfl (by decide +kernel) rfl rfl (Nat.le_of_ble_eq_true rfl) dX4_variables_2 (fun H locs hP _ hS => ?_)
  have hP : va_P (dC, dI) vwCl [(ad 0, .inr (4, [.int 0, .int (nI nv), .int (nI nc), .ref (ad 1), .ref (ad 2), .ref (ad 3), .int hp, .long bo, .int (nI su), .ref (ad 4), .ref (ad 5), .ref (ad 6), .int gh, .int gv, .int fo, .int bv, .long bc, .int nd, .int (nI lo), .ref (ad 7), .ref (ad 8), .ref (ad 9), .int (nI wa), .ref (ad 10), .ref (ad 11)])), (ad 1, .inl (cI, 40, .inl mt)), (ad 2, .inl (cI, 40, .inl mf)), (ad 3, .inl (cI, 40, .inl wt)), (ad 4, .inl (cL, 40, .inr (.inl ss))), (ad 5, .inl (cZ, 40, .inl av)), (ad 6, .inl (cI, 10, .inl re)), (ad 7, .inl (cI, 1024, .inl lh)), (ad 8, .inl (cI, 1024, .inl lw)), (ad 9, .inl (cL, 1024, .inr (.inl lb))), (ad 10, .inl (cI, 24, .inl wh)), (ad 11, .inl (cI, 24, .inl wv))] H := hP
  refine lv_aload_n hx hb dX4_variables_5 rfl (lv_at hl 0 rfl) ?_
  refine va_get (D := (dC, dI)) (ci := 4) (v := .int (nI nv)) (C := RX4) (T := TX4) (N := 25) hx hb hts (xcons inX4) hown hK hP 0 rfl rfl 1 (by decide) hw1 (fun _ h9 => h9) rfl dX4_variables_6 ?_
  exact W.iret (v := (nI nv)) hx hb hr (fun t ht hW => ⟨⟨_, 0, rfl, hF, xBi ht hP⟩, hS.F ht⟩) hS.2.2 dX4_variables_9
set_option maxHeartbeats 4000000 in
set_option maxRecDepth 100000 in
theorem k_clauses (l : Launch) (dC : Nat → ClassId) (dI : Nat → Nat → Nat) (cI cL cZ : ClassId) (ad : Nat → Nat) (hinj : xI ad 12) (co : Int32) (nv : Nat) (nc : Nat) (mt : (Nat → Int32)) (mf : (Nat → Int32)) (wt : (Nat → Int32)) (hp : Int32) (bo : Int64) (su : Nat) (ss : (Nat → Int64)) (av : (Nat → Int32)) (re : (Nat → Int32)) (gh : Int32) (gv : Int32) (fo : Int32) (bv : Int32) (bc : Int64) (nd : Int32) (lo : Nat) (lh : (Nat → Int32)) (lw : (Nat → Int32)) (lb : (Nat → Int64)) (wa : Nat) (wh : (Nat → Int32)) (wv : (Nat → Int32)) : Met l yX4_clauses wsX4_clauses ({ frames := 0, cells := 0, slots := 0, locals := 0 }) (va_Pc [.ref (ad 0)] (fun U => va_P (dC, dI) vwCl [(ad 0, .inr (4, [.int co, .int (nI nv), .int (nI nc), .ref (ad 1), .ref (ad 2), .ref (ad 3), .int hp, .long bo, .int (nI su), .ref (ad 4), .ref (ad 5), .ref (ad 6), .int gh, .int gv, .int fo, .int bv, .long bc, .int nd, .int (nI lo), .ref (ad 7), .ref (ad 8), .ref (ad 9), .int (nI wa), .ref (ad 10), .ref (ad 11)])), (ad 1, .inl (cI, 40, .inl mt)), (ad 2, .inl (cI, 40, .inl mf)), (ad 3, .inl (cI, 40, .inl wt)), (ad 4, .inl (cL, 40, .inr (.inl ss))), (ad 5, .inl (cZ, 40, .inl av)), (ad 6, .inl (cI, 10, .inl re)), (ad 7, .inl (cI, 1024, .inl lh)), (ad 8, .inl (cI, 1024, .inl lw)), (ad 9, .inl (cL, 1024, .inr (.inl lb))), (ad 10, .inl (cI, 24, .inl wh)), (ad 11, .inl (cI, 24, .inl wv))] U.heap ∧ va_K (dC, dI) vwCl [(cI, .int), (cL, .long), (cZ, .boolean)] U)) (va_Qi (fun r u => m_clauses nc = (r, u)) (xB (dC, dI) vwCl (fun (u : Int32) => match u with | co1 => [(ad 0, .inr (4, [.int co1, .int (nI nv), .int (nI nc), .ref (ad 1), .ref (ad 2), .ref (ad 3), .int hp, .long bo, .int (nI su), .ref (ad 4), .ref (ad 5), .ref (ad 6), .int gh, .int gv, .int fo, .int bv, .long bc, .int nd, .int (nI lo), .ref (ad 7), .ref (ad 8), .ref (ad 9), .int (nI wa), .ref (ad 10), .ref (ad 11)])), (ad 1, .inl (cI, 40, .inl mt)), (ad 2, .inl (cI, 40, .inl mf)), (ad 3, .inl (cI, 40, .inl wt)), (ad 4, .inl (cL, 40, .inr (.inl ss))), (ad 5, .inl (cZ, 40, .inl av)), (ad 6, .inl (cI, 10, .inl re)), (ad 7, .inl (cI, 1024, .inl lh)), (ad 8, .inl (cI, 1024, .inl lw)), (ad 9, .inl (cL, 1024, .inr (.inl lb))), (ad 10, .inl (cI, 24, .inl wh)), (ad 11, .inl (cI, 24, .inl wv))])) (xA ad [0, 1, 2, 3, 4, 5, 6, 7, 8, 9, 10, 11])) 0 0 (xA ad [0, 1, 2, 3, 4, 5, 6, 7, 8, 9, 10, 11]) := by
  refine Met.ofW (cc := cX4_clauses) (maxL := 1) (ret := (some .int)) (by decide) rfl ?_
  intro p e s m args below meth c s₁ B hml hvv
  obtain ⟨rfl, hP0, hK⟩ := hvv
  have hx := B.exec
  have hb := B.bytes
  have hr := B.returns
  have hts := atoms_spec (ws := wsX4_clauses) B.pre
  have hown : s.vm.findClass RX4 = some m.cls := findClass_of_methodNamed B.named
  have hlocks := B.notSynchronized
  have hw0 : (.fieldLink RX4 49 "WeightedClausesModel" "code" "I" : Cond).before _ s = true := hts _ (List.mem_cons_of_mem _ wd_530)
  have hw1 : (.fieldLink RX4 75 "WeightedClausesModel" "clauses" "I" : Cond).before _ s = true := hts _ (List.mem_cons_of_mem _ wd_532)
  have hP : va_P (dC, dI) vwCl [(ad 0, .inr (4, [.int co, .int (nI nv), .int (nI nc), .ref (ad 1), .ref (ad 2), .ref (ad 3), .int hp, .long bo, .int (nI su), .ref (ad 4), .ref (ad 5), .ref (ad 6), .int gh, .int gv, .int fo, .int bv, .long bc, .int nd, .int (nI lo), .ref (ad 7), .ref (ad 8), .ref (ad 9), .int (nI wa), .ref (ad 10), .ref (ad 11)])), (ad 1, .inl (cI, 40, .inl mt)), (ad 2, .inl (cI, 40, .inl mf)), (ad 3, .inl (cI, 40, .inl wt)), (ad 4, .inl (cL, 40, .inr (.inl ss))), (ad 5, .inl (cZ, 40, .inl av)), (ad 6, .inl (cI, 10, .inl re)), (ad 7, .inl (cI, 1024, .inl lh)), (ad 8, .inl (cI, 1024, .inl lw)), (ad 9, .inl (cL, 1024, .inr (.inl lb))), (ad 10, .inl (cI, 24, .inl wh)), (ad 11, .inl (cI, 24, .inl wv))] s.heap := hP0.sub [0, 1, 2, 3, 4, 5, 6, 7, 8, 9, 10, 11] rfl
  have hS : va_S (xA ad [0, 1, 2, 3, 4, 5, 6, 7, 8, 9, 10, 11]) s.heap s.heap [] := va_S.rf
  have hl := lv_entry [.ref (ad 0)] (n := 1) (Nat.le_of_ble_eq_true rfl)
  rw [lg_entry_eq]
  generalize (lg_sl [.ref (ad 0)] ++ List.replicate (1 - (lg_sl [.ref (ad 0)]).length) Slot.unset).toArray = ls at hl ⊢
  have hl : lv_has ls 1 [(0, .ref (ad 0))] := hl
  have hF := Eq.refl (m_clauses nc)
  conv at hF => rhs; unfold m_clauses
  refine lv_aload_n hx hb dX4_clauses_0 rfl (lv_at hl 0 rfl) ?_
  refine lv_iconst (v := 0) hx hb dX4_clauses_1 (by decide) ?_
  refine va_put (D := (dC, dI)) (ci := 4) (v := .int 0) (ty := .int) (C := RX4) (T := TX4) (N := 25) hx hb hts (xcons inX4) tyX4 tyX4_ok nX4 hown hK hP (xD hinj [0, 1, 2, 3, 4, 5, 6, 7, 8, 9, 10, 11] rfl (by decide) (by decide)) hS 0 rfl rfl 0 (by decide) hw0 (fun _ h9 => h9) rfl (by decide +kernel) rfl rfl (Nat.le_of_ble_eq_true rfl) dX4_clauses_2 (fun H locs hP _ hS => ?_)
  have hP : va_P (dC, dI) vwCl [(ad 0, .inr (4, [.int 0, .int (nI nv), .int (nI nc), .ref (ad 1), .ref (ad 2), .ref (ad 3), .int hp, .long bo, .int (nI su), .ref (ad 4), .ref (ad 5), .ref (ad 6), .int gh, .int gv, .int fo, .int bv, .long bc, .int nd, .int (nI lo), .ref (ad 7), .ref (ad 8), .ref (ad 9), .int (nI wa), .ref (ad 10), .ref (ad 11)])), (ad 1, .inl (cI, 40, .inl mt)), (ad 2, .inl (cI, 40, .inl mf)), (ad 3, .inl (cI, 40, .inl wt)), (ad 4, .inl (cL, 40, .inr (.inl ss))), (ad 5, .inl (cZ, 40, .inl av)), (ad 6, .inl (cI, 10, .inl re)), (ad 7, .inl (cI, 1024, .inl lh)), (ad 8, .inl (cI, 1024, .inl lw)), (ad 9, .inl (cL, 1024, .inr (.inl lb))), (ad 10, .inl (cI, 24, .inl wh)), (ad 11, .inl (cI, 24, .inl wv))] H := hP
  refine lv_aload_n hx hb dX4_clauses_5 rfl (lv_at hl 0 rfl) ?_
  refine va_get (D := (dC, dI)) (ci := 4) (v := .int (nI nc)) (C := RX4) (T := TX4) (N := 25) hx hb hts (xcons inX4) hown hK hP 0 rfl rfl 2 (by decide) hw1 (fun _ h9 => h9) rfl dX4_clauses_6 ?_
  exact W.iret (v := (nI nc)) hx hb hr (fun t ht hW => ⟨⟨_, 0, rfl, hF, xBi ht hP⟩, hS.F ht⟩) hS.2.2 dX4_clauses_9
set_option maxHeartbeats 4000000 in
set_option maxRecDepth 100000 in
theorem k_nodes (l : Launch) (dC : Nat → ClassId) (dI : Nat → Nat → Nat) (cI cL cZ : ClassId) (ad : Nat → Nat) (hinj : xI ad 12) (co : Int32) (nv : Nat) (nc : Nat) (mt : (Nat → Int32)) (mf : (Nat → Int32)) (wt : (Nat → Int32)) (hp : Int32) (bo : Int64) (su : Nat) (ss : (Nat → Int64)) (av : (Nat → Int32)) (re : (Nat → Int32)) (gh : Int32) (gv : Int32) (fo : Int32) (bv : Int32) (bc : Int64) (nd : Int32) (lo : Nat) (lh : (Nat → Int32)) (lw : (Nat → Int32)) (lb : (Nat → Int64)) (wa : Nat) (wh : (Nat → Int32)) (wv : (Nat → Int32)) : Met l yX4_nodes wsX4_nodes ({ frames := 0, cells := 0, slots := 0, locals := 0 }) (va_Pc [.ref (ad 0)] (fun U => va_P (dC, dI) vwCl [(ad 0, .inr (4, [.int co, .int (nI nv), .int (nI nc), .ref (ad 1), .ref (ad 2), .ref (ad 3), .int hp, .long bo, .int (nI su), .ref (ad 4), .ref (ad 5), .ref (ad 6), .int gh, .int gv, .int fo, .int bv, .long bc, .int nd, .int (nI lo), .ref (ad 7), .ref (ad 8), .ref (ad 9), .int (nI wa), .ref (ad 10), .ref (ad 11)])), (ad 1, .inl (cI, 40, .inl mt)), (ad 2, .inl (cI, 40, .inl mf)), (ad 3, .inl (cI, 40, .inl wt)), (ad 4, .inl (cL, 40, .inr (.inl ss))), (ad 5, .inl (cZ, 40, .inl av)), (ad 6, .inl (cI, 10, .inl re)), (ad 7, .inl (cI, 1024, .inl lh)), (ad 8, .inl (cI, 1024, .inl lw)), (ad 9, .inl (cL, 1024, .inr (.inl lb))), (ad 10, .inl (cI, 24, .inl wh)), (ad 11, .inl (cI, 24, .inl wv))] U.heap ∧ va_K (dC, dI) vwCl [(cI, .int), (cL, .long), (cZ, .boolean)] U)) (va_Qi (fun r u => m_nodes nd = (r, u)) (xB (dC, dI) vwCl (fun (u : Int32) => match u with | co1 => [(ad 0, .inr (4, [.int co1, .int (nI nv), .int (nI nc), .ref (ad 1), .ref (ad 2), .ref (ad 3), .int hp, .long bo, .int (nI su), .ref (ad 4), .ref (ad 5), .ref (ad 6), .int gh, .int gv, .int fo, .int bv, .long bc, .int nd, .int (nI lo), .ref (ad 7), .ref (ad 8), .ref (ad 9), .int (nI wa), .ref (ad 10), .ref (ad 11)])), (ad 1, .inl (cI, 40, .inl mt)), (ad 2, .inl (cI, 40, .inl mf)), (ad 3, .inl (cI, 40, .inl wt)), (ad 4, .inl (cL, 40, .inr (.inl ss))), (ad 5, .inl (cZ, 40, .inl av)), (ad 6, .inl (cI, 10, .inl re)), (ad 7, .inl (cI, 1024, .inl lh)), (ad 8, .inl (cI, 1024, .inl lw)), (ad 9, .inl (cL, 1024, .inr (.inl lb))), (ad 10, .inl (cI, 24, .inl wh)), (ad 11, .inl (cI, 24, .inl wv))])) (xA ad [0, 1, 2, 3, 4, 5, 6, 7, 8, 9, 10, 11])) 0 0 (xA ad [0, 1, 2, 3, 4, 5, 6, 7, 8, 9, 10, 11]) := by
  refine Met.ofW (cc := cX4_nodes) (maxL := 1) (ret := (some .int)) (by decide) rfl ?_
  intro p e s m args below meth c s₁ B hml hvv
  obtain ⟨rfl, hP0, hK⟩ := hvv
  have hx := B.exec
  have hb := B.bytes
  have hr := B.returns
  have hts := atoms_spec (ws := wsX4_nodes) B.pre
  have hown : s.vm.findClass RX4 = some m.cls := findClass_of_methodNamed B.named
  have hlocks := B.notSynchronized
  have hw0 : (.fieldLink RX4 49 "WeightedClausesModel" "code" "I" : Cond).before _ s = true := hts _ (List.mem_cons_of_mem _ wd_530)
  have hw1 : (.fieldLink RX4 56 "WeightedClausesModel" "nodes" "I" : Cond).before _ s = true := hts _ (List.mem_cons_of_mem _ wd_547)
  have hP : va_P (dC, dI) vwCl [(ad 0, .inr (4, [.int co, .int (nI nv), .int (nI nc), .ref (ad 1), .ref (ad 2), .ref (ad 3), .int hp, .long bo, .int (nI su), .ref (ad 4), .ref (ad 5), .ref (ad 6), .int gh, .int gv, .int fo, .int bv, .long bc, .int nd, .int (nI lo), .ref (ad 7), .ref (ad 8), .ref (ad 9), .int (nI wa), .ref (ad 10), .ref (ad 11)])), (ad 1, .inl (cI, 40, .inl mt)), (ad 2, .inl (cI, 40, .inl mf)), (ad 3, .inl (cI, 40, .inl wt)), (ad 4, .inl (cL, 40, .inr (.inl ss))), (ad 5, .inl (cZ, 40, .inl av)), (ad 6, .inl (cI, 10, .inl re)), (ad 7, .inl (cI, 1024, .inl lh)), (ad 8, .inl (cI, 1024, .inl lw)), (ad 9, .inl (cL, 1024, .inr (.inl lb))), (ad 10, .inl (cI, 24, .inl wh)), (ad 11, .inl (cI, 24, .inl wv))] s.heap := hP0.sub [0, 1, 2, 3, 4, 5, 6, 7, 8, 9, 10, 11] rfl
  have hS : va_S (xA ad [0, 1, 2, 3, 4, 5, 6, 7, 8, 9, 10, 11]) s.heap s.heap [] := va_S.rf
  have hl := lv_entry [.ref (ad 0)] (n := 1) (Nat.le_of_ble_eq_true rfl)
  rw [lg_entry_eq]
  generalize (lg_sl [.ref (ad 0)] ++ List.replicate (1 - (lg_sl [.ref (ad 0)]).length) Slot.unset).toArray = ls at hl ⊢
  have hl : lv_has ls 1 [(0, .ref (ad 0))] := hl
  have hF := Eq.refl (m_nodes nd)
  conv at hF => rhs; unfold m_nodes
  refine lv_aload_n hx hb dX4_nodes_0 rfl (lv_at hl 0 rfl) ?_
  refine lv_iconst (v := 0) hx hb dX4_nodes_1 (by decide) ?_
  refine va_put (D := (dC, dI)) (ci := 4) (v := .int 0) (ty := .int) (C := RX4) (T := TX4) (N := 25) hx hb hts (xcons inX4) tyX4 tyX4_ok nX4 hown hK hP (xD hinj [0, 1, 2, 3, 4, 5, 6, 7, 8, 9, 10, 11] rfl (by decide) (by decide)) hS 0 rfl rfl 0 (by decide) hw0 (fun _ h9 => h9) rfl (by decide +kernel) rfl rfl (Nat.le_of_ble_eq_true rfl) dX4_nodes_2 (fun H locs hP _ hS => ?_)
  have hP : va_P (dC, dI) vwCl [(ad 0, .inr (4, [.int 0, .int (nI nv), .int (nI nc), .ref (ad 1), .ref (ad 2), .ref (ad 3), .int hp, .long bo, .int (nI su), .ref (ad 4), .ref (ad 5), .ref (ad 6), .int gh, .int gv, .int fo, .int bv, .long bc, .int nd, .int (nI lo), .ref (ad 7), .ref (ad 8), .ref (ad 9), .int (nI wa), .ref (ad 10), .ref (ad 11)])), (ad 1, .inl (cI, 40, .inl mt)), (ad 2, .inl (cI, 40, .inl mf)), (ad 3, .inl (cI, 40, .inl wt)), (ad 4, .inl (cL, 40, .inr (.inl ss))), (ad 5, .inl (cZ, 40, .inl av)), (ad 6, .inl (cI, 10, .inl re)), (ad 7, .inl (cI, 1024, .inl lh)), (ad 8, .inl (cI, 1024, .inl lw)), (ad 9, .inl (cL, 1024, .inr (.inl lb))), (ad 10, .inl (cI, 24, .inl wh)), (ad 11, .inl (cI, 24, .inl wv))] H := hP
  refine lv_aload_n hx hb dX4_nodes_5 rfl (lv_at hl 0 rfl) ?_
  refine va_get (D := (dC, dI)) (ci := 4) (v := .int nd) (C := RX4) (T := TX4) (N := 25) hx hb hts (xcons inX4) hown hK hP 0 rfl rfl 17 (by decide) hw1 (fun _ h9 => h9) rfl dX4_nodes_6 ?_
  exact W.iret (v := nd) hx hb hr (fun t ht hW => ⟨⟨_, 0, rfl, hF, xBi ht hP⟩, hS.F ht⟩) hS.2.2 dX4_nodes_9
set_option maxHeartbeats 4000000 in
set_option maxRecDepth 100000 in
theorem k_logged (l : Launch) (dC : Nat → ClassId) (dI : Nat → Nat → Nat) (cI cL cZ : ClassId) (ad : Nat → Nat) (hinj : xI ad 12) (co : Int32) (nv : Nat) (nc : Nat) (mt : (Nat → Int32)) (mf : (Nat → Int32)) (wt : (Nat → Int32)) (hp : Int32) (bo : Int64) (su : Nat) (ss : (Nat → Int64)) (av : (Nat → Int32)) (re : (Nat → Int32)) (gh : Int32) (gv : Int32) (fo : Int32) (bv : Int32) (bc : Int64) (nd : Int32) (lo : Nat) (lh : (Nat → Int32)) (lw : (Nat → Int32)) (lb : (Nat → Int64)) (wa : Nat) (wh : (Nat → Int32)) (wv : (Nat → Int32)) : Met l yX4_logged wsX4_logged ({ frames := 0, cells := 0, slots := 0, locals := 0 }) (va_Pc [.ref (ad 0)] (fun U => va_P (dC, dI) vwCl [(ad 0, .inr (4, [.int co, .int (nI nv), .int (nI nc), .ref (ad 1), .ref (ad 2), .ref (ad 3), .int hp, .long bo, .int (nI su), .ref (ad 4), .ref (ad 5), .ref (ad 6), .int gh, .int gv, .int fo, .int bv, .long bc, .int nd, .int (nI lo), .ref (ad 7), .ref (ad 8), .ref (ad 9), .int (nI wa), .ref (ad 10), .ref (ad 11)])), (ad 1, .inl (cI, 40, .inl mt)), (ad 2, .inl (cI, 40, .inl mf)), (ad 3, .inl (cI, 40, .inl wt)), (ad 4, .inl (cL, 40, .inr (.inl ss))), (ad 5, .inl (cZ, 40, .inl av)), (ad 6, .inl (cI, 10, .inl re)), (ad 7, .inl (cI, 1024, .inl lh)), (ad 8, .inl (cI, 1024, .inl lw)), (ad 9, .inl (cL, 1024, .inr (.inl lb))), (ad 10, .inl (cI, 24, .inl wh)), (ad 11, .inl (cI, 24, .inl wv))] U.heap ∧ va_K (dC, dI) vwCl [(cI, .int), (cL, .long), (cZ, .boolean)] U)) (va_Qi (fun r u => m_logged lo = (r, u)) (xB (dC, dI) vwCl (fun (u : Int32) => match u with | co1 => [(ad 0, .inr (4, [.int co1, .int (nI nv), .int (nI nc), .ref (ad 1), .ref (ad 2), .ref (ad 3), .int hp, .long bo, .int (nI su), .ref (ad 4), .ref (ad 5), .ref (ad 6), .int gh, .int gv, .int fo, .int bv, .long bc, .int nd, .int (nI lo), .ref (ad 7), .ref (ad 8), .ref (ad 9), .int (nI wa), .ref (ad 10), .ref (ad 11)])), (ad 1, .inl (cI, 40, .inl mt)), (ad 2, .inl (cI, 40, .inl mf)), (ad 3, .inl (cI, 40, .inl wt)), (ad 4, .inl (cL, 40, .inr (.inl ss))), (ad 5, .inl (cZ, 40, .inl av)), (ad 6, .inl (cI, 10, .inl re)), (ad 7, .inl (cI, 1024, .inl lh)), (ad 8, .inl (cI, 1024, .inl lw)), (ad 9, .inl (cL, 1024, .inr (.inl lb))), (ad 10, .inl (cI, 24, .inl wh)), (ad 11, .inl (cI, 24, .inl wv))])) (xA ad [0, 1, 2, 3, 4, 5, 6, 7, 8, 9, 10, 11])) 0 0 (xA ad [0, 1, 2, 3, 4, 5, 6, 7, 8, 9, 10, 11]) := by
  refine Met.ofW (cc := cX4_logged) (maxL := 1) (ret := (some .int)) (by decide) rfl ?_
  intro p e s m args below meth c s₁ B hml hvv
  obtain ⟨rfl, hP0, hK⟩ := hvv
  have hx := B.exec
  have hb := B.bytes
  have hr := B.returns
  have hts := atoms_spec (ws := wsX4_logged) B.pre
  have hown : s.vm.findClass RX4 = some m.cls := findClass_of_methodNamed B.named
  have hlocks := B.notSynchronized
  have hw0 : (.fieldLink RX4 49 "WeightedClausesModel" "code" "I" : Cond).before _ s = true := hts _ (List.mem_cons_of_mem _ wd_530)
  have hw1 : (.fieldLink RX4 59 "WeightedClausesModel" "logs" "I" : Cond).before _ s = true := hts _ (List.mem_cons_of_mem _ wd_548)
  have hP : va_P (dC, dI) vwCl [(ad 0, .inr (4, [.int co, .int (nI nv), .int (nI nc), .ref (ad 1), .ref (ad 2), .ref (ad 3), .int hp, .long bo, .int (nI su), .ref (ad 4), .ref (ad 5), .ref (ad 6), .int gh, .int gv, .int fo, .int bv, .long bc, .int nd, .int (nI lo), .ref (ad 7), .ref (ad 8), .ref (ad 9), .int (nI wa), .ref (ad 10), .ref (ad 11)])), (ad 1, .inl (cI, 40, .inl mt)), (ad 2, .inl (cI, 40, .inl mf)), (ad 3, .inl (cI, 40, .inl wt)), (ad 4, .inl (cL, 40, .inr (.inl ss))), (ad 5, .inl (cZ, 40, .inl av)), (ad 6, .inl (cI, 10, .inl re)), (ad 7, .inl (cI, 1024, .inl lh)), (ad 8, .inl (cI, 1024, .inl lw)), (ad 9, .inl (cL, 1024, .inr (.inl lb))), (ad 10, .inl (cI, 24, .inl wh)), (ad 11, .inl (cI, 24, .inl wv))] s.heap := hP0.sub [0, 1, 2, 3, 4, 5, 6, 7, 8, 9, 10, 11] rfl
  have hS : va_S (xA ad [0, 1, 2, 3, 4, 5, 6, 7, 8, 9, 10, 11]) s.heap s.heap [] := va_S.rf
  have hl := lv_entry [.ref (ad 0)] (n := 1) (Nat.le_of_ble_eq_true rfl)
  rw [lg_entry_eq]
  generalize (lg_sl [.ref (ad 0)] ++ List.replicate (1 - (lg_sl [.ref (ad 0)]).length) Slot.unset).toArray = ls at hl ⊢
  have hl : lv_has ls 1 [(0, .ref (ad 0))] := hl
  have hF := Eq.refl (m_logged lo)
  conv at hF => rhs; unfold m_logged
  refine lv_aload_n hx hb dX4_logged_0 rfl (lv_at hl 0 rfl) ?_
  refine lv_iconst (v := 0) hx hb dX4_logged_1 (by decide) ?_
  refine va_put (D := (dC, dI)) (ci := 4) (v := .int 0) (ty := .int) (C := RX4) (T := TX4) (N := 25) hx hb hts (xcons inX4) tyX4 tyX4_ok nX4 hown hK hP (xD hinj [0, 1, 2, 3, 4, 5, 6, 7, 8, 9, 10, 11] rfl (by decide) (by decide)) hS 0 rfl rfl 0 (by decide) hw0 (fun _ h9 => h9) rfl (by decide +kernel) rfl rfl (Nat.le_of_ble_eq_true rfl) dX4_logged_2 (fun H locs hP _ hS => ?_)
  have hP : va_P (dC, dI) vwCl [(ad 0, .inr (4, [.int 0, .int (nI nv), .int (nI nc), .ref (ad 1), .ref (ad 2), .ref (ad 3), .int hp, .long bo, .int (nI su), .ref (ad 4), .ref (ad 5), .ref (ad 6), .int gh, .int gv, .int fo, .int bv, .long bc, .int nd, .int (nI lo), .ref (ad 7), .ref (ad 8), .ref (ad 9), .int (nI wa), .ref (ad 10), .ref (ad 11)])), (ad 1, .inl (cI, 40, .inl mt)), (ad 2, .inl (cI, 40, .inl mf)), (ad 3, .inl (cI, 40, .inl wt)), (ad 4, .inl (cL, 40, .inr (.inl ss))), (ad 5, .inl (cZ, 40, .inl av)), (ad 6, .inl (cI, 10, .inl re)), (ad 7, .inl (cI, 1024, .inl lh)), (ad 8, .inl (cI, 1024, .inl lw)), (ad 9, .inl (cL, 1024, .inr (.inl lb))), (ad 10, .inl (cI, 24, .inl wh)), (ad 11, .inl (cI, 24, .inl wv))] H := hP
  refine lv_aload_n hx hb dX4_logged_5 rfl (lv_at hl 0 rfl) ?_
  refine va_get (D := (dC, dI)) (ci := 4) (v := .int (nI lo)) (C := RX4) (T := TX4) (N := 25) hx hb hts (xcons inX4) hown hK hP 0 rfl rfl 18 (by decide) hw1 (fun _ h9 => h9) rfl dX4_logged_6 ?_
  exact W.iret (v := (nI lo)) hx hb hr (fun t ht hW => ⟨⟨_, 0, rfl, hF, xBi ht hP⟩, hS.F ht⟩) hS.2.2 dX4_logged_9
set_option maxHeartbeats 4000000 in
set_option maxRecDepth 100000 in
theorem k_value (l : Launch) (dC : Nat → ClassId) (dI : Nat → Nat → Nat) (cI cL cZ : ClassId) (ad : Nat → Nat) (hinj : xI ad 12) (co : Int32) (nv : Nat) (nc : Nat) (mt : (Nat → Int32)) (mf : (Nat → Int32)) (wt : (Nat → Int32)) (hp : Int32) (bo : Int64) (su : Nat) (ss : (Nat → Int64)) (av : (Nat → Int32)) (re : (Nat → Int32)) (gh : Int32) (gv : Int32) (fo : Int32) (bv : Int32) (bc : Int64) (nd : Int32) (lo : Nat) (lh : (Nat → Int32)) (lw : (Nat → Int32)) (lb : (Nat → Int64)) (wa : Nat) (wh : (Nat → Int32)) (wv : (Nat → Int32)) (v : Int32) : Met l yX4_value wsX4_value ({ frames := 0, cells := 0, slots := 0, locals := 0 }) (va_Pc [.ref (ad 0), .int v] (fun U => va_P (dC, dI) vwCl [(ad 0, .inr (4, [.int co, .int (nI nv), .int (nI nc), .ref (ad 1), .ref (ad 2), .ref (ad 3), .int hp, .long bo, .int (nI su), .ref (ad 4), .ref (ad 5), .ref (ad 6), .int gh, .int gv, .int fo, .int bv, .long bc, .int nd, .int (nI lo), .ref (ad 7), .ref (ad 8), .ref (ad 9), .int (nI wa), .ref (ad 10), .ref (ad 11)])), (ad 1, .inl (cI, 40, .inl mt)), (ad 2, .inl (cI, 40, .inl mf)), (ad 3, .inl (cI, 40, .inl wt)), (ad 4, .inl (cL, 40, .inr (.inl ss))), (ad 5, .inl (cZ, 40, .inl av)), (ad 6, .inl (cI, 10, .inl re)), (ad 7, .inl (cI, 1024, .inl lh)), (ad 8, .inl (cI, 1024, .inl lw)), (ad 9, .inl (cL, 1024, .inr (.inl lb))), (ad 10, .inl (cI, 24, .inl wh)), (ad 11, .inl (cI, 24, .inl wv))] U.heap ∧ va_K (dC, dI) vwCl [(cI, .int), (cL, .long), (cZ, .boolean)] U)) (va_Qi (fun r u => m_value nv fo bv v = (r, u)) (xB (dC, dI) vwCl (fun (u : Int32) => match u with | co1 => [(ad 0, .inr (4, [.int co1, .int (nI nv), .int (nI nc), .ref (ad 1), .ref (ad 2), .ref (ad 3), .int hp, .long bo, .int (nI su), .ref (ad 4), .ref (ad 5), .ref (ad 6), .int gh, .int gv, .int fo, .int bv, .long bc, .int nd, .int (nI lo), .ref (ad 7), .ref (ad 8), .ref (ad 9), .int (nI wa), .ref (ad 10), .ref (ad 11)])), (ad 1, .inl (cI, 40, .inl mt)), (ad 2, .inl (cI, 40, .inl mf)), (ad 3, .inl (cI, 40, .inl wt)), (ad 4, .inl (cL, 40, .inr (.inl ss))), (ad 5, .inl (cZ, 40, .inl av)), (ad 6, .inl (cI, 10, .inl re)), (ad 7, .inl (cI, 1024, .inl lh)), (ad 8, .inl (cI, 1024, .inl lw)), (ad 9, .inl (cL, 1024, .inr (.inl lb))), (ad 10, .inl (cI, 24, .inl wh)), (ad 11, .inl (cI, 24, .inl wv))])) (xA ad [0, 1, 2, 3, 4, 5, 6, 7, 8, 9, 10, 11])) 0 0 (xA ad [0, 1, 2, 3, 4, 5, 6, 7, 8, 9, 10, 11]) := by
  refine Met.ofW (cc := cX4_value) (maxL := 2) (ret := (some .int)) (by decide) rfl ?_
  intro p e s m args below meth c s₁ B hml hvv
  obtain ⟨rfl, hP0, hK⟩ := hvv
  have hx := B.exec
  have hb := B.bytes
  have hr := B.returns
  have hts := atoms_spec (ws := wsX4_value) B.pre
  have hown : s.vm.findClass RX4 = some m.cls := findClass_of_methodNamed B.named
  have hlocks := B.notSynchronized
  have hw0 : (.fieldLink RX4 49 "WeightedClausesModel" "code" "I" : Cond).before _ s = true := hts _ (List.mem_cons_of_mem _ wd_530)
  have hw1 : (.fieldLink RX4 45 "WeightedClausesModel" "variables" "I" : Cond).before _ s = true := hts _ (List.mem_cons_of_mem _ wd_531)
  have hw2 : (.fieldLink RX4 52 "WeightedClausesModel" "found" "Z" : Cond).before _ s = true := hts _ (List.mem_cons_of_mem _ wd_544)
  have hw3 : (.fieldLink RX4 147 "WeightedClausesModel" "bestValues" "I" : Cond).before _ s = true := hts _ (List.mem_cons_of_mem _ wd_545)
  have hP : va_P (dC, dI) vwCl [(ad 0, .inr (4, [.int co, .int (nI nv), .int (nI nc), .ref (ad 1), .ref (ad 2), .ref (ad 3), .int hp, .long bo, .int (nI su), .ref (ad 4), .ref (ad 5), .ref (ad 6), .int gh, .int gv, .int fo, .int bv, .long bc, .int nd, .int (nI lo), .ref (ad 7), .ref (ad 8), .ref (ad 9), .int (nI wa), .ref (ad 10), .ref (ad 11)])), (ad 1, .inl (cI, 40, .inl mt)), (ad 2, .inl (cI, 40, .inl mf)), (ad 3, .inl (cI, 40, .inl wt)), (ad 4, .inl (cL, 40, .inr (.inl ss))), (ad 5, .inl (cZ, 40, .inl av)), (ad 6, .inl (cI, 10, .inl re)), (ad 7, .inl (cI, 1024, .inl lh)), (ad 8, .inl (cI, 1024, .inl lw)), (ad 9, .inl (cL, 1024, .inr (.inl lb))), (ad 10, .inl (cI, 24, .inl wh)), (ad 11, .inl (cI, 24, .inl wv))] s.heap := hP0.sub [0, 1, 2, 3, 4, 5, 6, 7, 8, 9, 10, 11] rfl
  have hS : va_S (xA ad [0, 1, 2, 3, 4, 5, 6, 7, 8, 9, 10, 11]) s.heap s.heap [] := va_S.rf
  have hl := lv_entry [.ref (ad 0), .int v] (n := 2) (Nat.le_of_ble_eq_true rfl)
  rw [lg_entry_eq]
  generalize (lg_sl [.ref (ad 0), .int v] ++ List.replicate (2 - (lg_sl [.ref (ad 0), .int v]).length) Slot.unset).toArray = ls at hl ⊢
  have hl : lv_has ls 2 [(0, .ref (ad 0)), (1, .int v)] := hl
  have hF := Eq.refl (m_value nv fo bv v)
  conv at hF => rhs; unfold m_value
  refine lv_aload_n hx hb dX4_value_0 rfl (lv_at hl 0 rfl) ?_
  refine lv_iconst (v := 0) hx hb dX4_value_1 (by decide) ?_
  refine va_put (D := (dC, dI)) (ci := 4) (v := .int 0) (ty := .int) (C := RX4) (T := TX4) (N := 25) hx hb hts (xcons inX4) tyX4 tyX4_ok nX4 hown hK hP (xD hinj [0, 1, 2, 3, 4, 5, 6, 7, 8, 9, 10, 11] rfl (by decide) (by decide)) hS 0 rfl rfl 0 (by decide) hw0 (fun _ h9 => h9) rfl (by decide +kernel) rfl rfl (Nat.le_of_ble_eq_true rfl) dX4_value_2 (fun H locs hP _ hS => ?_)
  have hP : va_P (dC, dI) vwCl [(ad 0, .inr (4, [.int 0, .int (nI nv), .int (nI nc), .ref (ad 1), .ref (ad 2), .ref (ad 3), .int hp, .long bo, .int (nI su), .ref (ad 4), .ref (ad 5), .ref (ad 6), .int gh, .int gv, .int fo, .int bv, .long bc, .int nd, .int (nI lo), .ref (ad 7), .ref (ad 8), .ref (ad 9), .int (nI wa), .ref (ad 10), .ref (ad 11)])), (ad 1, .inl (cI, 40, .inl mt)), (ad 2, .inl (cI, 40, .inl mf)), (ad 3, .inl (cI, 40, .inl wt)), (ad 4, .inl (cL, 40, .inr (.inl ss))), (ad 5, .inl (cZ, 40, .inl av)), (ad 6, .inl (cI, 10, .inl re)), (ad 7, .inl (cI, 1024, .inl lh)), (ad 8, .inl (cI, 1024, .inl lw)), (ad 9, .inl (cL, 1024, .inr (.inl lb))), (ad 10, .inl (cI, 24, .inl wh)), (ad 11, .inl (cI, 24, .inl wv))] H := hP
  refine lv_iload_n hx hb dX4_value_5 rfl (lv_at hl 1 rfl) ?_
  refine lv_if_lt (tgt := 24) hx hb dX4_value_6 (by decide) (fun h1 => ?_) (fun h1 => ?_)
  · have hF := hF.trans (if_pos h1)
    refine lv_iconst (v := (-1)) hx hb dX4_value_24 (by decide) ?_
    refine lv_goto (tgt := 36) hx hb dX4_value_25 (by decide) ?_
    exact W.iret (v := (-1)) hx hb hr (fun t ht hW => ⟨⟨_, 0, rfl, hF, xBi ht hP⟩, hS.F ht⟩) hS.2.2 dX4_value_36
  · have hF := hF.trans (if_neg h1)
    refine lv_iload_n hx hb dX4_value_9 rfl (lv_at hl 1 rfl) ?_
    refine lv_aload_n hx hb dX4_value_10 rfl (lv_at hl 0 rfl) ?_
    refine va_get (D := (dC, dI)) (ci := 4) (v := .int (nI nv)) (C := RX4) (T := TX4) (N := 25) hx hb hts (xcons inX4) hown hK hP 0 rfl rfl 1 (by decide) hw1 (fun _ h9 => h9) rfl dX4_value_11 ?_
    refine lv_icmp_ge (tgt := 24) hx hb dX4_value_14 (by decide) (fun h2 => ?_) (fun h2 => ?_)
    · have hF := hF.trans (if_pos h2)
      refine lv_iconst (v := (-1)) hx hb dX4_value_24 (by decide) ?_
      refine lv_goto (tgt := 36) hx hb dX4_value_25 (by decide) ?_
      exact W.iret (v := (-1)) hx hb hr (fun t ht hW => ⟨⟨_, 0, rfl, hF, xBi ht hP⟩, hS.F ht⟩) hS.2.2 dX4_value_36
    · have hF := hF.trans (if_neg h2)
      refine lv_aload_n hx hb dX4_value_17 rfl (lv_at hl 0 rfl) ?_
      refine va_get (D := (dC, dI)) (ci := 4) (v := .int fo) (C := RX4) (T := TX4) (N := 25) hx hb hts (xcons inX4) hown hK hP 0 rfl rfl 14 (by decide) hw2 (fun _ h9 => h9) rfl dX4_value_18 ?_
      refine lv_if_ne (tgt := 28) hx hb dX4_value_21 (by decide) (fun h3 => ?_) (fun h3 => ?_)
      · have hF := hF.trans (if_neg h3)
        refine lv_aload_n hx hb dX4_value_28 rfl (lv_at hl 0 rfl) ?_
        refine va_get (D := (dC, dI)) (ci := 4) (v := .int bv) (C := RX4) (T := TX4) (N := 25) hx hb hts (xcons inX4) hown hK hP 0 rfl rfl 15 (by decide) hw3 (fun _ h9 => h9) rfl dX4_value_29 ?_
        refine lv_iload_n hx hb dX4_value_32 rfl (lv_at hl 1 rfl) ?_
        refine lv_ishr hx hb dX4_value_33 ?_
        refine lv_iconst (v := 1) hx hb dX4_value_34 (by decide) ?_
        refine lv_iand hx hb dX4_value_35 ?_
        exact W.iret (v := ((bv >>> (v &&& 31)) &&& 1)) hx hb hr (fun t ht hW => ⟨⟨_, 0, rfl, hF, xBi ht hP⟩, hS.F ht⟩) hS.2.2 dX4_value_36
      · have hF := hF.trans (if_pos h3)
        refine lv_iconst (v := (-1)) hx hb dX4_value_24 (by decide) ?_
        refine lv_goto (tgt := 36) hx hb dX4_value_25 (by decide) ?_
        exact W.iret (v := (-1)) hx hb hr (fun t ht hW => ⟨⟨_, 0, rfl, hF, xBi ht hP⟩, hS.F ht⟩) hS.2.2 dX4_value_36
set_option maxHeartbeats 4000000 in
set_option maxRecDepth 100000 in
theorem k_log (l : Launch) (dC : Nat → ClassId) (dI : Nat → Nat → Nat) (cI cL cZ : ClassId) (ad : Nat → Nat) (hinj : xI ad 12) (co : Int32) (nv : Nat) (nc : Nat) (mt : (Nat → Int32)) (mf : (Nat → Int32)) (wt : (Nat → Int32)) (hp : Int32) (bo : Int64) (su : Nat) (ss : (Nat → Int64)) (av : (Nat → Int32)) (re : (Nat → Int32)) (gh : Int32) (gv : Int32) (fo : Int32) (bv : Int32) (bc : Int64) (nd : Int32) (lo : Nat) (lh : (Nat → Int32)) (lw : (Nat → Int32)) (lb : (Nat → Int64)) (wa : Nat) (wh : (Nat → Int32)) (wv : (Nat → Int32)) (hlo : lo ≤ 1024) (k what : Int32) : Met l yX4_log wsX4_log ({ frames := 0, cells := 0, slots := 0, locals := 0 }) (va_Pc [.ref (ad 0), .int k, .int what] (fun U => va_P (dC, dI) vwCl [(ad 0, .inr (4, [.int co, .int (nI nv), .int (nI nc), .ref (ad 1), .ref (ad 2), .ref (ad 3), .int hp, .long bo, .int (nI su), .ref (ad 4), .ref (ad 5), .ref (ad 6), .int gh, .int gv, .int fo, .int bv, .long bc, .int nd, .int (nI lo), .ref (ad 7), .ref (ad 8), .ref (ad 9), .int (nI wa), .ref (ad 10), .ref (ad 11)])), (ad 1, .inl (cI, 40, .inl mt)), (ad 2, .inl (cI, 40, .inl mf)), (ad 3, .inl (cI, 40, .inl wt)), (ad 4, .inl (cL, 40, .inr (.inl ss))), (ad 5, .inl (cZ, 40, .inl av)), (ad 6, .inl (cI, 10, .inl re)), (ad 7, .inl (cI, 1024, .inl lh)), (ad 8, .inl (cI, 1024, .inl lw)), (ad 9, .inl (cL, 1024, .inr (.inl lb))), (ad 10, .inl (cI, 24, .inl wh)), (ad 11, .inl (cI, 24, .inl wv))] U.heap ∧ va_K (dC, dI) vwCl [(cI, .int), (cL, .long), (cZ, .boolean)] U)) (va_Qi (fun r u => m_log lo lh lw k what = (r, u)) (xB (dC, dI) vwCl (fun (u : Int32) => match u with | co1 => [(ad 0, .inr (4, [.int co1, .int (nI nv), .int (nI nc), .ref (ad 1), .ref (ad 2), .ref (ad 3), .int hp, .long bo, .int (nI su), .ref (ad 4), .ref (ad 5), .ref (ad 6), .int gh, .int gv, .int fo, .int bv, .long bc, .int nd, .int (nI lo), .ref (ad 7), .ref (ad 8), .ref (ad 9), .int (nI wa), .ref (ad 10), .ref (ad 11)])), (ad 1, .inl (cI, 40, .inl mt)), (ad 2, .inl (cI, 40, .inl mf)), (ad 3, .inl (cI, 40, .inl wt)), (ad 4, .inl (cL, 40, .inr (.inl ss))), (ad 5, .inl (cZ, 40, .inl av)), (ad 6, .inl (cI, 10, .inl re)), (ad 7, .inl (cI, 1024, .inl lh)), (ad 8, .inl (cI, 1024, .inl lw)), (ad 9, .inl (cL, 1024, .inr (.inl lb))), (ad 10, .inl (cI, 24, .inl wh)), (ad 11, .inl (cI, 24, .inl wv))])) (xA ad [0, 1, 2, 3, 4, 5, 6, 7, 8, 9, 10, 11])) 0 0 (xA ad [0, 1, 2, 3, 4, 5, 6, 7, 8, 9, 10, 11]) := by
  refine Met.ofW (cc := cX4_log) (maxL := 3) (ret := (some .int)) (by decide) rfl ?_
  intro p e s m args below meth c s₁ B hml hvv
  obtain ⟨rfl, hP0, hK⟩ := hvv
  have hx := B.exec
  have hb := B.bytes
  have hr := B.returns
  have hts := atoms_spec (ws := wsX4_log) B.pre
  have hown : s.vm.findClass RX4 = some m.cls := findClass_of_methodNamed B.named
  have hlocks := B.notSynchronized
  have hw0 : (.fieldLink RX4 49 "WeightedClausesModel" "code" "I" : Cond).before _ s = true := hts _ (List.mem_cons_of_mem _ wd_530)
  have hw1 : (.fieldLink RX4 59 "WeightedClausesModel" "logs" "I" : Cond).before _ s = true := hts _ (List.mem_cons_of_mem _ wd_548)
  have hw2 : (.fieldLink RX4 33 "WeightedClausesModel" "logValues" "[I" : Cond).before _ s = true := hts _ (List.mem_cons_of_mem _ wd_550)
  have hw3 : (.fieldLink RX4 30 "WeightedClausesModel" "logHave" "[I" : Cond).before _ s = true := hts _ (List.mem_cons_of_mem _ wd_549)
  have hP : va_P (dC, dI) vwCl [(ad 0, .inr (4, [.int co, .int (nI nv), .int (nI nc), .ref (ad 1), .ref (ad 2), .ref (ad 3), .int hp, .long bo, .int (nI su), .ref (ad 4), .ref (ad 5), .ref (ad 6), .int gh, .int gv, .int fo, .int bv, .long bc, .int nd, .int (nI lo), .ref (ad 7), .ref (ad 8), .ref (ad 9), .int (nI wa), .ref (ad 10), .ref (ad 11)])), (ad 1, .inl (cI, 40, .inl mt)), (ad 2, .inl (cI, 40, .inl mf)), (ad 3, .inl (cI, 40, .inl wt)), (ad 4, .inl (cL, 40, .inr (.inl ss))), (ad 5, .inl (cZ, 40, .inl av)), (ad 6, .inl (cI, 10, .inl re)), (ad 7, .inl (cI, 1024, .inl lh)), (ad 8, .inl (cI, 1024, .inl lw)), (ad 9, .inl (cL, 1024, .inr (.inl lb))), (ad 10, .inl (cI, 24, .inl wh)), (ad 11, .inl (cI, 24, .inl wv))] s.heap := hP0.sub [0, 1, 2, 3, 4, 5, 6, 7, 8, 9, 10, 11] rfl
  have hS : va_S (xA ad [0, 1, 2, 3, 4, 5, 6, 7, 8, 9, 10, 11]) s.heap s.heap [] := va_S.rf
  have hl := lv_entry [.ref (ad 0), .int k, .int what] (n := 3) (Nat.le_of_ble_eq_true rfl)
  rw [lg_entry_eq]
  generalize (lg_sl [.ref (ad 0), .int k, .int what] ++ List.replicate (3 - (lg_sl [.ref (ad 0), .int k, .int what]).length) Slot.unset).toArray = ls at hl ⊢
  have hl : lv_has ls 3 [(0, .ref (ad 0)), (1, .int k), (2, .int what)] := hl
  have hF := Eq.refl (m_log lo lh lw k what)
  conv at hF => rhs; unfold m_log
  refine lv_aload_n hx hb dX4_log_0 rfl (lv_at hl 0 rfl) ?_
  refine lv_iconst (v := 0) hx hb dX4_log_1 (by decide) ?_
  refine va_put (D := (dC, dI)) (ci := 4) (v := .int 0) (ty := .int) (C := RX4) (T := TX4) (N := 25) hx hb hts (xcons inX4) tyX4 tyX4_ok nX4 hown hK hP (xD hinj [0, 1, 2, 3, 4, 5, 6, 7, 8, 9, 10, 11] rfl (by decide) (by decide)) hS 0 rfl rfl 0 (by decide) hw0 (fun _ h9 => h9) rfl (by decide +kernel) rfl rfl (Nat.le_of_ble_eq_true rfl) dX4_log_2 (fun H locs hP _ hS => ?_)
  have hP : va_P (dC, dI) vwCl [(ad 0, .inr (4, [.int 0, .int (nI nv), .int (nI nc), .ref (ad 1), .ref (ad 2), .ref (ad 3), .int hp, .long bo, .int (nI su), .ref (ad 4), .ref (ad 5), .ref (ad 6), .int gh, .int gv, .int fo, .int bv, .long bc, .int nd, .int (nI lo), .ref (ad 7), .ref (ad 8), .ref (ad 9), .int (nI wa), .ref (ad 10), .ref (ad 11)])), (ad 1, .inl (cI, 40, .inl mt)), (ad 2, .inl (cI, 40, .inl mf)), (ad 3, .inl (cI, 40, .inl wt)), (ad 4, .inl (cL, 40, .inr (.inl ss))), (ad 5, .inl (cZ, 40, .inl av)), (ad 6, .inl (cI, 10, .inl re)), (ad 7, .inl (cI, 1024, .inl lh)), (ad 8, .inl (cI, 1024, .inl lw)), (ad 9, .inl (cL, 1024, .inr (.inl lb))), (ad 10, .inl (cI, 24, .inl wh)), (ad 11, .inl (cI, 24, .inl wv))] H := hP
  refine lv_iload_n hx hb dX4_log_5 rfl (lv_at hl 1 rfl) ?_
  refine lv_if_lt (tgt := 26) hx hb dX4_log_6 (by decide) (fun h1 => ?_) (fun h1 => ?_)
  · have hF := hF.trans (if_pos h1)
    refine lv_iconst (v := (-1)) hx hb dX4_log_26 (by decide) ?_
    refine lv_goto (tgt := 49) hx hb dX4_log_27 (by decide) ?_
    exact W.iret (v := (-1)) hx hb hr (fun t ht hW => ⟨⟨_, 0, rfl, hF, xBi ht hP⟩, hS.F ht⟩) hS.2.2 dX4_log_49
  · have hF := hF.trans (if_neg h1)
    have hk1 := h1
    refine lv_iload_n hx hb dX4_log_9 rfl (lv_at hl 1 rfl) ?_
    refine lv_aload_n hx hb dX4_log_10 rfl (lv_at hl 0 rfl) ?_
    refine va_get (D := (dC, dI)) (ci := 4) (v := .int (nI lo)) (C := RX4) (T := TX4) (N := 25) hx hb hts (xcons inX4) hown hK hP 0 rfl rfl 18 (by decide) hw1 (fun _ h9 => h9) rfl dX4_log_11 ?_
    refine lv_icmp_ge (tgt := 26) hx hb dX4_log_14 (by decide) (fun h2 => ?_) (fun h2 => ?_)
    · have hF := hF.trans (if_pos h2)
      refine lv_iconst (v := (-1)) hx hb dX4_log_26 (by decide) ?_
      refine lv_goto (tgt := 49) hx hb dX4_log_27 (by decide) ?_
      exact W.iret (v := (-1)) hx hb hr (fun t ht hW => ⟨⟨_, 0, rfl, hF, xBi ht hP⟩, hS.F ht⟩) hS.2.2 dX4_log_49
    · have hF := hF.trans (if_neg h2)
      have hk2 := h2
      refine lv_iload_n hx hb dX4_log_17 rfl (lv_at hl 2 rfl) ?_
      refine lv_if_lt (tgt := 26) hx hb dX4_log_18 (by decide) (fun h3 => ?_) (fun h3 => ?_)
      · have hF := hF.trans (if_pos h3)
        refine lv_iconst (v := (-1)) hx hb dX4_log_26 (by decide) ?_
        refine lv_goto (tgt := 49) hx hb dX4_log_27 (by decide) ?_
        exact W.iret (v := (-1)) hx hb hr (fun t ht hW => ⟨⟨_, 0, rfl, hF, xBi ht hP⟩, hS.F ht⟩) hS.2.2 dX4_log_49
      · have hF := hF.trans (if_neg h3)
        refine lv_iload_n hx hb dX4_log_21 rfl (lv_at hl 2 rfl) ?_
        refine lv_iconst (v := 1) hx hb dX4_log_22 (by decide) ?_
        refine lv_icmp_le (tgt := 30) hx hb dX4_log_23 (by decide) (fun h4 => ?_) (fun h4 => ?_)
        · have hF := hF.trans (if_pos h4)
          refine lv_iload_n hx hb dX4_log_30 rfl (lv_at hl 2 rfl) ?_
          refine lv_if_ne (tgt := 43) hx hb dX4_log_31 (by decide) (fun h5 => ?_) (fun h5 => ?_)
          · have hF := hF.trans (if_neg h5)
            refine lv_aload_n hx hb dX4_log_43 rfl (lv_at hl 0 rfl) ?_
            refine va_get (D := (dC, dI)) (ci := 4) (v := .ref (ad 8)) (C := RX4) (T := TX4) (N := 25) hx hb hts (xcons inX4) hown hK hP 0 rfl rfl 20 (by decide) hw2 (fun _ h9 => h9) rfl dX4_log_44 ?_
            refine lv_iload_n hx hb dX4_log_47 rfl (lv_at hl 1 rfl) ?_
            refine va_iald hx hb hK hP 8 0 rfl rfl (xin hk1 hk2 hlo (by omega)) dX4_log_48 ?_
            exact W.iret (v := (lw k.toNatClampNeg)) hx hb hr (fun t ht hW => ⟨⟨_, 0, rfl, hF, xBi ht hP⟩, hS.F ht⟩) hS.2.2 dX4_log_49
          · have hF := hF.trans (if_pos h5)
            refine lv_aload_n hx hb dX4_log_34 rfl (lv_at hl 0 rfl) ?_
            refine va_get (D := (dC, dI)) (ci := 4) (v := .ref (ad 7)) (C := RX4) (T := TX4) (N := 25) hx hb hts (xcons inX4) hown hK hP 0 rfl rfl 19 (by decide) hw3 (fun _ h9 => h9) rfl dX4_log_35 ?_
            refine lv_iload_n hx hb dX4_log_38 rfl (lv_at hl 1 rfl) ?_
            refine va_iald hx hb hK hP 7 0 rfl rfl (xin hk1 hk2 hlo (by omega)) dX4_log_39 ?_
            refine lv_goto (tgt := 49) hx hb dX4_log_40 (by decide) ?_
            exact W.iret (v := (lh k.toNatClampNeg)) hx hb hr (fun t ht hW => ⟨⟨_, 0, rfl, hF, xBi ht hP⟩, hS.F ht⟩) hS.2.2 dX4_log_49
        · have hF := hF.trans (if_neg h4)
          refine lv_iconst (v := (-1)) hx hb dX4_log_26 (by decide) ?_
          refine lv_goto (tgt := 49) hx hb dX4_log_27 (by decide) ?_
          exact W.iret (v := (-1)) hx hb hr (fun t ht hW => ⟨⟨_, 0, rfl, hF, xBi ht hP⟩, hS.F ht⟩) hS.2.2 dX4_log_49
set_option maxHeartbeats 4000000 in
set_option maxRecDepth 100000 in
theorem k_best (l : Launch) (dC : Nat → ClassId) (dI : Nat → Nat → Nat) (cI cL cZ : ClassId) (ad : Nat → Nat) (hinj : xI ad 12) (co : Int32) (nv : Nat) (nc : Nat) (mt : (Nat → Int32)) (mf : (Nat → Int32)) (wt : (Nat → Int32)) (hp : Int32) (bo : Int64) (su : Nat) (ss : (Nat → Int64)) (av : (Nat → Int32)) (re : (Nat → Int32)) (gh : Int32) (gv : Int32) (fo : Int32) (bv : Int32) (bc : Int64) (nd : Int32) (lo : Nat) (lh : (Nat → Int32)) (lw : (Nat → Int32)) (lb : (Nat → Int64)) (wa : Nat) (wh : (Nat → Int32)) (wv : (Nat → Int32)) (hlo : lo ≤ 1024) (k : Int32) : Met l yX4_best wsX4_best ({ frames := 0, cells := 0, slots := 0, locals := 0 }) (va_Pc [.ref (ad 0), .int k] (fun U => va_P (dC, dI) vwCl [(ad 0, .inr (4, [.int co, .int (nI nv), .int (nI nc), .ref (ad 1), .ref (ad 2), .ref (ad 3), .int hp, .long bo, .int (nI su), .ref (ad 4), .ref (ad 5), .ref (ad 6), .int gh, .int gv, .int fo, .int bv, .long bc, .int nd, .int (nI lo), .ref (ad 7), .ref (ad 8), .ref (ad 9), .int (nI wa), .ref (ad 10), .ref (ad 11)])), (ad 1, .inl (cI, 40, .inl mt)), (ad 2, .inl (cI, 40, .inl mf)), (ad 3, .inl (cI, 40, .inl wt)), (ad 4, .inl (cL, 40, .inr (.inl ss))), (ad 5, .inl (cZ, 40, .inl av)), (ad 6, .inl (cI, 10, .inl re)), (ad 7, .inl (cI, 1024, .inl lh)), (ad 8, .inl (cI, 1024, .inl lw)), (ad 9, .inl (cL, 1024, .inr (.inl lb))), (ad 10, .inl (cI, 24, .inl wh)), (ad 11, .inl (cI, 24, .inl wv))] U.heap ∧ va_K (dC, dI) vwCl [(cI, .int), (cL, .long), (cZ, .boolean)] U)) (va_Ql (fun r u => m_best lo lb k = (r, u)) (xB (dC, dI) vwCl (fun (u : Int32) => match u with | co1 => [(ad 0, .inr (4, [.int co1, .int (nI nv), .int (nI nc), .ref (ad 1), .ref (ad 2), .ref (ad 3), .int hp, .long bo, .int (nI su), .ref (ad 4), .ref (ad 5), .ref (ad 6), .int gh, .int gv, .int fo, .int bv, .long bc, .int nd, .int (nI lo), .ref (ad 7), .ref (ad 8), .ref (ad 9), .int (nI wa), .ref (ad 10), .ref (ad 11)])), (ad 1, .inl (cI, 40, .inl mt)), (ad 2, .inl (cI, 40, .inl mf)), (ad 3, .inl (cI, 40, .inl wt)), (ad 4, .inl (cL, 40, .inr (.inl ss))), (ad 5, .inl (cZ, 40, .inl av)), (ad 6, .inl (cI, 10, .inl re)), (ad 7, .inl (cI, 1024, .inl lh)), (ad 8, .inl (cI, 1024, .inl lw)), (ad 9, .inl (cL, 1024, .inr (.inl lb))), (ad 10, .inl (cI, 24, .inl wh)), (ad 11, .inl (cI, 24, .inl wv))])) (xA ad [0, 1, 2, 3, 4, 5, 6, 7, 8, 9, 10, 11])) 0 0 (xA ad [0, 1, 2, 3, 4, 5, 6, 7, 8, 9, 10, 11]) := by
  refine Met.ofW (cc := cX4_best) (maxL := 2) (ret := (some .long)) (by decide) rfl ?_
  intro p e s m args below meth c s₁ B hml hvv
  obtain ⟨rfl, hP0, hK⟩ := hvv
  have hx := B.exec
  have hb := B.bytes
  have hr := B.returns
  have hts := atoms_spec (ws := wsX4_best) B.pre
  have hown : s.vm.findClass RX4 = some m.cls := findClass_of_methodNamed B.named
  have hlocks := B.notSynchronized
  have hw0 : (.fieldLink RX4 49 "WeightedClausesModel" "code" "I" : Cond).before _ s = true := hts _ (List.mem_cons_of_mem _ wd_530)
  have hw1 : (.constantLong RX4 150 (-1) : Cond).before _ s = true := hts _ (List.mem_cons_of_mem _ wd_723)
  have hw2 : (.fieldLink RX4 59 "WeightedClausesModel" "logs" "I" : Cond).before _ s = true := hts _ (List.mem_cons_of_mem _ wd_548)
  have hw3 : (.fieldLink RX4 36 "WeightedClausesModel" "logBest" "[J" : Cond).before _ s = true := hts _ (List.mem_cons_of_mem _ wd_551)
  have hP : va_P (dC, dI) vwCl [(ad 0, .inr (4, [.int co, .int (nI nv), .int (nI nc), .ref (ad 1), .ref (ad 2), .ref (ad 3), .int hp, .long bo, .int (nI su), .ref (ad 4), .ref (ad 5), .ref (ad 6), .int gh, .int gv, .int fo, .int bv, .long bc, .int nd, .int (nI lo), .ref (ad 7), .ref (ad 8), .ref (ad 9), .int (nI wa), .ref (ad 10), .ref (ad 11)])), (ad 1, .inl (cI, 40, .inl mt)), (ad 2, .inl (cI, 40, .inl mf)), (ad 3, .inl (cI, 40, .inl wt)), (ad 4, .inl (cL, 40, .inr (.inl ss))), (ad 5, .inl (cZ, 40, .inl av)), (ad 6, .inl (cI, 10, .inl re)), (ad 7, .inl (cI, 1024, .inl lh)), (ad 8, .inl (cI, 1024, .inl lw)), (ad 9, .inl (cL, 1024, .inr (.inl lb))), (ad 10, .inl (cI, 24, .inl wh)), (ad 11, .inl (cI, 24, .inl wv))] s.heap := hP0.sub [0, 1, 2, 3, 4, 5, 6, 7, 8, 9, 10, 11] rfl
  have hS : va_S (xA ad [0, 1, 2, 3, 4, 5, 6, 7, 8, 9, 10, 11]) s.heap s.heap [] := va_S.rf
  have hl := lv_entry [.ref (ad 0), .int k] (n := 2) (Nat.le_of_ble_eq_true rfl)
  rw [lg_entry_eq]
  generalize (lg_sl [.ref (ad 0), .int k] ++ List.replicate (2 - (lg_sl [.ref (ad 0), .int k]).length) Slot.unset).toArray = ls at hl ⊢
  have hl : lv_has ls 2 [(0, .ref (ad 0)), (1, .int k)] := hl
  have hF := Eq.refl (m_best lo lb k)
  conv at hF => rhs; unfold m_best
  refine lv_aload_n hx hb dX4_best_0 rfl (lv_at hl 0 rfl) ?_
  refine lv_iconst (v := 0) hx hb dX4_best_1 (by decide) ?_
  refine va_put (D := (dC, dI)) (ci := 4) (v := .int 0) (ty := .int) (C := RX4) (T := TX4) (N := 25) hx hb hts (xcons inX4) tyX4 tyX4_ok nX4 hown hK hP (xD hinj [0, 1, 2, 3, 4, 5, 6, 7, 8, 9, 10, 11] rfl (by decide) (by decide)) hS 0 rfl rfl 0 (by decide) hw0 (fun _ h9 => h9) rfl (by decide +kernel) rfl rfl (Nat.le_of_ble_eq_true rfl) dX4_best_2 (fun H locs hP _ hS => ?_)
  have hP : va_P (dC, dI) vwCl [(ad 0, .inr (4, [.int 0, .int (nI nv), .int (nI nc), .ref (ad 1), .ref (ad 2), .ref (ad 3), .int hp, .long bo, .int (nI su), .ref (ad 4), .ref (ad 5), .ref (ad 6), .int gh, .int gv, .int fo, .int bv, .long bc, .int nd, .int (nI lo), .ref (ad 7), .ref (ad 8), .ref (ad 9), .int (nI wa), .ref (ad 10), .ref (ad 11)])), (ad 1, .inl (cI, 40, .inl mt)), (ad 2, .inl (cI, 40, .inl mf)), (ad 3, .inl (cI, 40, .inl wt)), (ad 4, .inl (cL, 40, .inr (.inl ss))), (ad 5, .inl (cZ, 40, .inl av)), (ad 6, .inl (cI, 10, .inl re)), (ad 7, .inl (cI, 1024, .inl lh)), (ad 8, .inl (cI, 1024, .inl lw)), (ad 9, .inl (cL, 1024, .inr (.inl lb))), (ad 10, .inl (cI, 24, .inl wh)), (ad 11, .inl (cI, 24, .inl wv))] H := hP
  refine lv_iload_n hx hb dX4_best_5 rfl (lv_at hl 1 rfl) ?_
  refine lv_if_lt (tgt := 17) hx hb dX4_best_6 (by decide) (fun h1 => ?_) (fun h1 => ?_)
  · have hF := hF.trans (if_pos h1)
    refine lv_ldc2 hx hb hown hw1 dX4_best_17 ?_
    refine lv_goto (tgt := 29) hx hb dX4_best_20 (by decide) ?_
    exact W.lret (v := (-1)) hx hb hr (fun t ht hW => ⟨⟨_, 0, rfl, hF, xBi ht hP⟩, hS.F ht⟩) hS.2.2 dX4_best_29
  · have hF := hF.trans (if_neg h1)
    have hk1 := h1
    refine lv_iload_n hx hb dX4_best_9 rfl (lv_at hl 1 rfl) ?_
    refine lv_aload_n hx hb dX4_best_10 rfl (lv_at hl 0 rfl) ?_
    refine va_get (D := (dC, dI)) (ci := 4) (v := .int (nI lo)) (C := RX4) (T := TX4) (N := 25) hx hb hts (xcons inX4) hown hK hP 0 rfl rfl 18 (by decide) hw2 (fun _ h9 => h9) rfl dX4_best_11 ?_
    refine lv_icmp_lt (tgt := 23) hx hb dX4_best_14 (by decide) (fun h2 => ?_) (fun h2 => ?_)
    · have hF := hF.trans (if_pos h2)
      have hk2 := xnlt h2
      refine lv_aload_n hx hb dX4_best_23 rfl (lv_at hl 0 rfl) ?_
      refine va_get (D := (dC, dI)) (ci := 4) (v := .ref (ad 9)) (C := RX4) (T := TX4) (N := 25) hx hb hts (xcons inX4) hown hK hP 0 rfl rfl 21 (by decide) hw3 (fun _ h9 => h9) rfl dX4_best_24 ?_
      refine lv_iload_n hx hb dX4_best_27 rfl (lv_at hl 1 rfl) ?_
      refine va_lald hx hb hK hP 9 1 rfl rfl (xin hk1 hk2 hlo (by omega)) dX4_best_28 ?_
      exact W.lret (v := (lb k.toNatClampNeg)) hx hb hr (fun t ht hW => ⟨⟨_, 0, rfl, hF, xBi ht hP⟩, hS.F ht⟩) hS.2.2 dX4_best_29
    · have hF := hF.trans (if_neg h2)
      refine lv_ldc2 hx hb hown hw1 dX4_best_17 ?_
      refine lv_goto (tgt := 29) hx hb dX4_best_20 (by decide) ?_
      exact W.lret (v := (-1)) hx hb hr (fun t ht hW => ⟨⟨_, 0, rfl, hF, xBi ht hP⟩, hS.F ht⟩) hS.2.2 dX4_best_29
set_option maxHeartbeats 4000000 in
set_option maxRecDepth 100000 in
theorem k_drop (l : Launch) (dC : Nat → ClassId) (dI : Nat → Nat → Nat) (cI cL cZ : ClassId) (ad : Nat → Nat) (hinj : xI ad 12) (co : Int32) (nv : Nat) (nc : Nat) (mt : (Nat → Int32)) (mf : (Nat → Int32)) (wt : (Nat → Int32)) (hp : Int32) (bo : Int64) (su : Nat) (ss : (Nat → Int64)) (av : (Nat → Int32)) (re : (Nat → Int32)) (gh : Int32) (gv : Int32) (fo : Int32) (bv : Int32) (bc : Int64) (nd : Int32) (lo : Nat) (lh : (Nat → Int32)) (lw : (Nat → Int32)) (lb : (Nat → Int64)) (wa : Nat) (wh : (Nat → Int32)) (wv : (Nat → Int32)) (hnc : nc ≤ 40) (hnv : nv ≤ 10) : Met l yX4_drop wsX4_drop ({ frames := 1, cells := 0, slots := 0, locals := 20 }) (va_Pc [.ref (ad 0)] (fun U => va_P (dC, dI) vwCl [(ad 0, .inr (4, [.int co, .int (nI nv), .int (nI nc), .ref (ad 1), .ref (ad 2), .ref (ad 3), .int hp, .long bo, .int (nI su), .ref (ad 4), .ref (ad 5), .ref (ad 6), .int gh, .int gv, .int fo, .int bv, .long bc, .int nd, .int (nI lo), .ref (ad 7), .ref (ad 8), .ref (ad 9), .int (nI wa), .ref (ad 10), .ref (ad 11)])), (ad 1, .inl (cI, 40, .inl mt)), (ad 2, .inl (cI, 40, .inl mf)), (ad 3, .inl (cI, 40, .inl wt)), (ad 4, .inl (cL, 40, .inr (.inl ss))), (ad 5, .inl (cZ, 40, .inl av)), (ad 6, .inl (cI, 10, .inl re)), (ad 7, .inl (cI, 1024, .inl lh)), (ad 8, .inl (cI, 1024, .inl lw)), (ad 9, .inl (cL, 1024, .inr (.inl lb))), (ad 10, .inl (cI, 24, .inl wh)), (ad 11, .inl (cI, 24, .inl wv))] U.heap ∧ va_K (dC, dI) vwCl [(cI, .int), (cL, .long), (cZ, .boolean)] U)) (va_Qi (fun r u => m_drop nc fo nd lo = (r, u)) (xB (dC, dI) vwCl (fun (u : Int32 × Nat × Int32 × Int32 × Nat) => match u with | (co1, nc1, fo1, nd1, lo1) => [(ad 0, .inr (4, [.int co1, .int (nI nv), .int (nI nc1), .ref (ad 1), .ref (ad 2), .ref (ad 3), .int hp, .long bo, .int (nI su), .ref (ad 4), .ref (ad 5), .ref (ad 6), .int gh, .int gv, .int fo1, .int bv, .long bc, .int nd1, .int (nI lo1), .ref (ad 7), .ref (ad 8), .ref (ad 9), .int (nI wa), .ref (ad 10), .ref (ad 11)])), (ad 1, .inl (cI, 40, .inl mt)), (ad 2, .inl (cI, 40, .inl mf)), (ad 3, .inl (cI, 40, .inl wt)), (ad 4, .inl (cL, 40, .inr (.inl ss))), (ad 5, .inl (cZ, 40, .inl av)), (ad 6, .inl (cI, 10, .inl re)), (ad 7, .inl (cI, 1024, .inl lh)), (ad 8, .inl (cI, 1024, .inl lw)), (ad 9, .inl (cL, 1024, .inr (.inl lb))), (ad 10, .inl (cI, 24, .inl wh)), (ad 11, .inl (cI, 24, .inl wv))])) (xA ad [0, 1, 2, 3, 4, 5, 6, 7, 8, 9, 10, 11])) 0 0 (xA ad [0, 1, 2, 3, 4, 5, 6, 7, 8, 9, 10, 11]) := by
  refine Met.ofW (cc := cX4_drop) (maxL := 1) (ret := (some .int)) (by decide) rfl ?_
  intro p e s m args below meth c s₁ B hml hvv
  obtain ⟨rfl, hP0, hK⟩ := hvv
  have hx := B.exec
  have hb := B.bytes
  have hr := B.returns
  have hts := atoms_spec (ws := wsX4_drop) B.pre
  have hown : s.vm.findClass RX4 = some m.cls := findClass_of_methodNamed B.named
  have hlocks := B.notSynchronized
  have hw0 : (.fieldLink RX4 49 "WeightedClausesModel" "code" "I" : Cond).before _ s = true := hts _ (List.mem_cons_of_mem _ wd_530)
  have hw1 : (.fieldLink RX4 75 "WeightedClausesModel" "clauses" "I" : Cond).before _ s = true := hts _ (List.mem_cons_of_mem _ wd_532)
  have hP : va_P (dC, dI) vwCl [(ad 0, .inr (4, [.int co, .int (nI nv), .int (nI nc), .ref (ad 1), .ref (ad 2), .ref (ad 3), .int hp, .long bo, .int (nI su), .ref (ad 4), .ref (ad 5), .ref (ad 6), .int gh, .int gv, .int fo, .int bv, .long bc, .int nd, .int (nI lo), .ref (ad 7), .ref (ad 8), .ref (ad 9), .int (nI wa), .ref (ad 10), .ref (ad 11)])), (ad 1, .inl (cI, 40, .inl mt)), (ad 2, .inl (cI, 40, .inl mf)), (ad 3, .inl (cI, 40, .inl wt)), (ad 4, .inl (cL, 40, .inr (.inl ss))), (ad 5, .inl (cZ, 40, .inl av)), (ad 6, .inl (cI, 10, .inl re)), (ad 7, .inl (cI, 1024, .inl lh)), (ad 8, .inl (cI, 1024, .inl lw)), (ad 9, .inl (cL, 1024, .inr (.inl lb))), (ad 10, .inl (cI, 24, .inl wh)), (ad 11, .inl (cI, 24, .inl wv))] s.heap := hP0.sub [0, 1, 2, 3, 4, 5, 6, 7, 8, 9, 10, 11] rfl
  have hS : va_S (xA ad [0, 1, 2, 3, 4, 5, 6, 7, 8, 9, 10, 11]) s.heap s.heap [] := va_S.rf
  have hl := lv_entry [.ref (ad 0)] (n := 1) (Nat.le_of_ble_eq_true rfl)
  rw [lg_entry_eq]
  generalize (lg_sl [.ref (ad 0)] ++ List.replicate (1 - (lg_sl [.ref (ad 0)]).length) Slot.unset).toArray = ls at hl ⊢
  have hl : lv_has ls 1 [(0, .ref (ad 0))] := hl
  have hF := Eq.refl (m_drop nc fo nd lo)
  conv at hF => rhs; unfold m_drop
  refine lv_aload_n hx hb dX4_drop_0 rfl (lv_at hl 0 rfl) ?_
  refine lv_iconst (v := 0) hx hb dX4_drop_1 (by decide) ?_
  refine va_put (D := (dC, dI)) (ci := 4) (v := .int 0) (ty := .int) (C := RX4) (T := TX4) (N := 25) hx hb hts (xcons inX4) tyX4 tyX4_ok nX4 hown hK hP (xD hinj [0, 1, 2, 3, 4, 5, 6, 7, 8, 9, 10, 11] rfl (by decide) (by decide)) hS 0 rfl rfl 0 (by decide) hw0 (fun _ h9 => h9) rfl (by decide +kernel) rfl rfl (Nat.le_of_ble_eq_true rfl) dX4_drop_2 (fun H locs hP _ hS => ?_)
  have hP : va_P (dC, dI) vwCl [(ad 0, .inr (4, [.int 0, .int (nI nv), .int (nI nc), .ref (ad 1), .ref (ad 2), .ref (ad 3), .int hp, .long bo, .int (nI su), .ref (ad 4), .ref (ad 5), .ref (ad 6), .int gh, .int gv, .int fo, .int bv, .long bc, .int nd, .int (nI lo), .ref (ad 7), .ref (ad 8), .ref (ad 9), .int (nI wa), .ref (ad 10), .ref (ad 11)])), (ad 1, .inl (cI, 40, .inl mt)), (ad 2, .inl (cI, 40, .inl mf)), (ad 3, .inl (cI, 40, .inl wt)), (ad 4, .inl (cL, 40, .inr (.inl ss))), (ad 5, .inl (cZ, 40, .inl av)), (ad 6, .inl (cI, 10, .inl re)), (ad 7, .inl (cI, 1024, .inl lh)), (ad 8, .inl (cI, 1024, .inl lw)), (ad 9, .inl (cL, 1024, .inr (.inl lb))), (ad 10, .inl (cI, 24, .inl wh)), (ad 11, .inl (cI, 24, .inl wv))] H := hP
  refine lv_aload_n hx hb dX4_drop_5 rfl (lv_at hl 0 rfl) ?_
  refine va_get (D := (dC, dI)) (ci := 4) (v := .int (nI nc)) (C := RX4) (T := TX4) (N := 25) hx hb hts (xcons inX4) hown hK hP 0 rfl rfl 2 (by decide) hw1 (fun _ h9 => h9) rfl dX4_drop_6 ?_
  refine lv_if_ne (tgt := 14) hx hb dX4_drop_9 (by decide) (fun h1 => ?_) (fun h1 => ?_)
  · have hF := hF.trans (if_neg h1)
    have hpos := xpos0 h1
    refine lv_aload_n hx hb dX4_drop_14 rfl (lv_at hl 0 rfl) ?_
    refine lv_dup hx hb dX4_drop_15 rfl ?_
    refine va_get (D := (dC, dI)) (ci := 4) (v := .int (nI nc)) (C := RX4) (T := TX4) (N := 25) hx hb hts (xcons inX4) hown hK hP 0 rfl rfl 2 (by decide) hw1 (fun _ h9 => h9) rfl dX4_drop_16 ?_
    refine lv_iconst (v := 1) hx hb dX4_drop_19 (by decide) ?_
    refine xr_subp (by omega) hx hb dX4_drop_20 ?_
    refine va_put (D := (dC, dI)) (ci := 4) (v := .int (nI (nc - 1))) (ty := .int) (C := RX4) (T := TX4) (N := 25) hx hb hts (xcons inX4) tyX4 tyX4_ok nX4 hown hK hP (xD hinj [0, 1, 2, 3, 4, 5, 6, 7, 8, 9, 10, 11] rfl (by decide) (by decide)) hS 0 rfl rfl 2 (by decide) hw1 (fun _ h9 => h9) rfl (by decide +kernel) rfl rfl (Nat.le_of_ble_eq_true rfl) dX4_drop_21 (fun H locs hP _ hS => ?_)
    have hP : va_P (dC, dI) vwCl [(ad 0, .inr (4, [.int 0, .int (nI nv), .int (nI (nc - 1)), .ref (ad 1), .ref (ad 2), .ref (ad 3), .int hp, .long bo, .int (nI su), .ref (ad 4), .ref (ad 5), .ref (ad 6), .int gh, .int gv, .int fo, .int bv, .long bc, .int nd, .int (nI lo), .ref (ad 7), .ref (ad 8), .ref (ad 9), .int (nI wa), .ref (ad 10), .ref (ad 11)])), (ad 1, .inl (cI, 40, .inl mt)), (ad 2, .inl (cI, 40, .inl mf)), (ad 3, .inl (cI, 40, .inl wt)), (ad 4, .inl (cL, 40, .inr (.inl ss))), (ad 5, .inl (cZ, 40, .inl av)), (ad 6, .inl (cI, 10, .inl re)), (ad 7, .inl (cI, 1024, .inl lh)), (ad 8, .inl (cI, 1024, .inl lw)), (ad 9, .inl (cL, 1024, .inr (.inl lb))), (ad 10, .inl (cI, 24, .inl wh)), (ad 11, .inl (cI, 24, .inl wv))] H := hP
    refine lv_aload_n hx hb dX4_drop_24 rfl (lv_at hl 0 rfl) ?_
    refine xrw_v (va_runV (As := []) (rest := []) ⟨hx, hb, hml, hown, hts⟩ (k_forget l dC dI cI cL cZ ad hinj 0 nv (nc - 1) mt mf wt hp bo su ss av re gh gv fo bv bc nd lo lh lw lb wa wh wv) (xcwV 0 hts wd_633 wd_39 wd_630 wd_632 wd_18 rfl rfl (by decide +kernel) ⟨Nat.le_of_ble_eq_true rfl, Nat.le_of_ble_eq_true rfl⟩) (xpreV (va_recv hK hP rfl (q0 := 0) rfl) hP hK) rfl rfl hl.1 rfl (lv_room (Nat.le_of_ble_eq_true rfl)) dX4_drop_25 ⟨Nat.le_of_ble_eq_true rfl, Nat.le_of_ble_eq_true rfl⟩) hS (xAsub (by decide)) (fun u H locs h2 hB hk hS => ?_)
    obtain ⟨fo1_25, nd1_25, lo1_25⟩ := u
    have hP : va_P (dC, dI) vwCl [(ad 0, .inr (4, [.int 0, .int (nI nv), .int (nI (nc - 1)), .ref (ad 1), .ref (ad 2), .ref (ad 3), .int hp, .long bo, .int (nI su), .ref (ad 4), .ref (ad 5), .ref (ad 6), .int gh, .int gv, .int fo1_25, .int bv, .long bc, .int nd1_25, .int (nI lo1_25), .ref (ad 7), .ref (ad 8), .ref (ad 9), .int (nI wa), .ref (ad 10), .ref (ad 11)])), (ad 1, .inl (cI, 40, .inl mt)), (ad 2, .inl (cI, 40, .inl mf)), (ad 3, .inl (cI, 40, .inl wt)), (ad 4, .inl (cL, 40, .inr (.inl ss))), (ad 5, .inl (cZ, 40, .inl av)), (ad 6, .inl (cI, 10, .inl re)), (ad 7, .inl (cI, 1024, .inl lh)), (ad 8, .inl (cI, 1024, .inl lw)), (ad 9, .inl (cL, 1024, .inr (.inl lb))), (ad 10, .inl (cI, 24, .inl wh)), (ad 11, .inl (cI, 24, .inl wv))] H := va_P.sub hB [0, 1, 2, 3, 4, 5, 6, 7, 8, 9, 10, 11] rfl
    rw [h2] at hF
    try dsimp only at hF
    refine lv_aload_n hx hb dX4_drop_28 rfl (lv_at hl 0 rfl) ?_
    refine va_get (D := (dC, dI)) (ci := 4) (v := .int (nI (nc - 1))) (C := RX4) (T := TX4) (N := 25) hx hb hts (xcons inX4) hown hK hP 0 rfl rfl 2 (by decide) hw1 (fun _ h9 => h9) rfl dX4_drop_29 ?_
    exact W.iret (v := (nI (nc - 1))) hx hb hr (fun t ht hW => ⟨⟨_, (0, (nc - 1), fo1_25, nd1_25, lo1_25), rfl, hF, xBi ht hP⟩, hS.F ht⟩) hS.2.2 dX4_drop_32
  · have hF := hF.trans (if_pos h1)
    refine lv_iconst (v := (-1)) hx hb dX4_drop_12 (by decide) ?_
    exact W.iret (v := (-1)) hx hb hr (fun t ht hW => ⟨⟨_, (0, nc, fo, nd, lo), rfl, hF, xBi ht hP⟩, hS.F ht⟩) hS.2.2 dX4_drop_13
set_option maxHeartbeats 4000000 in
set_option maxRecDepth 100000 in
theorem k_weigh (l : Launch) (dC : Nat → ClassId) (dI : Nat → Nat → Nat) (cI cL cZ : ClassId) (ad : Nat → Nat) (hinj : xI ad 12) (co : Int32) (nv : Nat) (nc : Nat) (mt : (Nat → Int32)) (mf : (Nat → Int32)) (wt : (Nat → Int32)) (hp : Int32) (bo : Int64) (su : Nat) (ss : (Nat → Int64)) (av : (Nat → Int32)) (re : (Nat → Int32)) (gh : Int32) (gv : Int32) (fo : Int32) (bv : Int32) (bc : Int64) (nd : Int32) (lo : Nat) (lh : (Nat → Int32)) (lw : (Nat → Int32)) (lb : (Nat → Int64)) (wa : Nat) (wh : (Nat → Int32)) (wv : (Nat → Int32)) (hnc : nc ≤ 40) (hnv : nv ≤ 10) (k w : Int32) : Met l yX4_weigh wsX4_weigh ({ frames := 1, cells := 0, slots := 0, locals := 20 }) (va_Pc [.ref (ad 0), .int k, .int w] (fun U => va_P (dC, dI) vwCl [(ad 0, .inr (4, [.int co, .int (nI nv), .int (nI nc), .ref (ad 1), .ref (ad 2), .ref (ad 3), .int hp, .long bo, .int (nI su), .ref (ad 4), .ref (ad 5), .ref (ad 6), .int gh, .int gv, .int fo, .int bv, .long bc, .int nd, .int (nI lo), .ref (ad 7), .ref (ad 8), .ref (ad 9), .int (nI wa), .ref (ad 10), .ref (ad 11)])), (ad 1, .inl (cI, 40, .inl mt)), (ad 2, .inl (cI, 40, .inl mf)), (ad 3, .inl (cI, 40, .inl wt)), (ad 4, .inl (cL, 40, .inr (.inl ss))), (ad 5, .inl (cZ, 40, .inl av)), (ad 6, .inl (cI, 10, .inl re)), (ad 7, .inl (cI, 1024, .inl lh)), (ad 8, .inl (cI, 1024, .inl lw)), (ad 9, .inl (cL, 1024, .inr (.inl lb))), (ad 10, .inl (cI, 24, .inl wh)), (ad 11, .inl (cI, 24, .inl wv))] U.heap ∧ va_K (dC, dI) vwCl [(cI, .int), (cL, .long), (cZ, .boolean)] U)) (va_Qi (fun r u => m_weigh nc wt fo nd lo k w = (r, u)) (xB (dC, dI) vwCl (fun (u : Int32 × (Nat → Int32) × Int32 × Int32 × Nat) => match u with | (co1, wt1, fo1, nd1, lo1) => [(ad 0, .inr (4, [.int co1, .int (nI nv), .int (nI nc), .ref (ad 1), .ref (ad 2), .ref (ad 3), .int hp, .long bo, .int (nI su), .ref (ad 4), .ref (ad 5), .ref (ad 6), .int gh, .int gv, .int fo1, .int bv, .long bc, .int nd1, .int (nI lo1), .ref (ad 7), .ref (ad 8), .ref (ad 9), .int (nI wa), .ref (ad 10), .ref (ad 11)])), (ad 1, .inl (cI, 40, .inl mt)), (ad 2, .inl (cI, 40, .inl mf)), (ad 3, .inl (cI, 40, .inl wt1)), (ad 4, .inl (cL, 40, .inr (.inl ss))), (ad 5, .inl (cZ, 40, .inl av)), (ad 6, .inl (cI, 10, .inl re)), (ad 7, .inl (cI, 1024, .inl lh)), (ad 8, .inl (cI, 1024, .inl lw)), (ad 9, .inl (cL, 1024, .inr (.inl lb))), (ad 10, .inl (cI, 24, .inl wh)), (ad 11, .inl (cI, 24, .inl wv))])) (xA ad [0, 1, 2, 3, 4, 5, 6, 7, 8, 9, 10, 11])) 0 0 (xA ad [0, 1, 2, 3, 4, 5, 6, 7, 8, 9, 10, 11]) := by
  refine Met.ofW (cc := cX4_weigh) (maxL := 4) (ret := (some .int)) (by decide) rfl ?_
  intro p e s m args below meth c s₁ B hml hvv
  obtain ⟨rfl, hP0, hK⟩ := hvv
  have hx := B.exec
  have hb := B.bytes
  have hr := B.returns
  have hts := atoms_spec (ws := wsX4_weigh) B.pre
  have hown : s.vm.findClass RX4 = some m.cls := findClass_of_methodNamed B.named
  have hlocks := B.notSynchronized
  have hw0 : (.fieldLink RX4 49 "WeightedClausesModel" "code" "I" : Cond).before _ s = true := hts _ (List.mem_cons_of_mem _ wd_530)
  have hw1 : (.fieldLink RX4 75 "WeightedClausesModel" "clauses" "I" : Cond).before _ s = true := hts _ (List.mem_cons_of_mem _ wd_532)
  have hw2 : (.constant RX4 62 1000000 : Cond).before _ s = true := hts _ (List.mem_cons_of_mem _ wd_619)
  have hw3 : (.fieldLink RX4 16 "WeightedClausesModel" "weights" "[I" : Cond).before _ s = true := hts _ (List.mem_cons_of_mem _ wd_535)
  have hP : va_P (dC, dI) vwCl [(ad 0, .inr (4, [.int co, .int (nI nv), .int (nI nc), .ref (ad 1), .ref (ad 2), .ref (ad 3), .int hp, .long bo, .int (nI su), .ref (ad 4), .ref (ad 5), .ref (ad 6), .int gh, .int gv, .int fo, .int bv, .long bc, .int nd, .int (nI lo), .ref (ad 7), .ref (ad 8), .ref (ad 9), .int (nI wa), .ref (ad 10), .ref (ad 11)])), (ad 1, .inl (cI, 40, .inl mt)), (ad 2, .inl (cI, 40, .inl mf)), (ad 3, .inl (cI, 40, .inl wt)), (ad 4, .inl (cL, 40, .inr (.inl ss))), (ad 5, .inl (cZ, 40, .inl av)), (ad 6, .inl (cI, 10, .inl re)), (ad 7, .inl (cI, 1024, .inl lh)), (ad 8, .inl (cI, 1024, .inl lw)), (ad 9, .inl (cL, 1024, .inr (.inl lb))), (ad 10, .inl (cI, 24, .inl wh)), (ad 11, .inl (cI, 24, .inl wv))] s.heap := hP0.sub [0, 1, 2, 3, 4, 5, 6, 7, 8, 9, 10, 11] rfl
  have hS : va_S (xA ad [0, 1, 2, 3, 4, 5, 6, 7, 8, 9, 10, 11]) s.heap s.heap [] := va_S.rf
  have hl := lv_entry [.ref (ad 0), .int k, .int w] (n := 4) (Nat.le_of_ble_eq_true rfl)
  rw [lg_entry_eq]
  generalize (lg_sl [.ref (ad 0), .int k, .int w] ++ List.replicate (4 - (lg_sl [.ref (ad 0), .int k, .int w]).length) Slot.unset).toArray = ls at hl ⊢
  have hl : lv_has ls 4 [(0, .ref (ad 0)), (1, .int k), (2, .int w)] := hl
  have hF := Eq.refl (m_weigh nc wt fo nd lo k w)
  conv at hF => rhs; unfold m_weigh
  refine lv_aload_n hx hb dX4_weigh_0 rfl (lv_at hl 0 rfl) ?_
  refine lv_iload_n hx hb dX4_weigh_1 rfl (lv_at hl 1 rfl) ?_
  refine lv_if_lt (tgt := 23) hx hb dX4_weigh_2 (by decide) (fun h1 => ?_) (fun h1 => ?_)
  · have hF := hF.trans (if_pos h1)
    refine lv_iconst (v := 1) hx hb dX4_weigh_23 (by decide) ?_
    refine lv_goto (tgt := 28) hx hb dX4_weigh_24 (by decide) ?_
    refine va_put (D := (dC, dI)) (ci := 4) (v := .int 1) (ty := .int) (C := RX4) (T := TX4) (N := 25) hx hb hts (xcons inX4) tyX4 tyX4_ok nX4 hown hK hP (xD hinj [0, 1, 2, 3, 4, 5, 6, 7, 8, 9, 10, 11] rfl (by decide) (by decide)) hS 0 rfl rfl 0 (by decide) hw0 (fun _ h9 => h9) rfl (by decide +kernel) rfl rfl (Nat.le_of_ble_eq_true rfl) dX4_weigh_28 (fun H locs hP _ hS => ?_)
    have hP : va_P (dC, dI) vwCl [(ad 0, .inr (4, [.int 1, .int (nI nv), .int (nI nc), .ref (ad 1), .ref (ad 2), .ref (ad 3), .int hp, .long bo, .int (nI su), .ref (ad 4), .ref (ad 5), .ref (ad 6), .int gh, .int gv, .int fo, .int bv, .long bc, .int nd, .int (nI lo), .ref (ad 7), .ref (ad 8), .ref (ad 9), .int (nI wa), .ref (ad 10), .ref (ad 11)])), (ad 1, .inl (cI, 40, .inl mt)), (ad 2, .inl (cI, 40, .inl mf)), (ad 3, .inl (cI, 40, .inl wt)), (ad 4, .inl (cL, 40, .inr (.inl ss))), (ad 5, .inl (cZ, 40, .inl av)), (ad 6, .inl (cI, 10, .inl re)), (ad 7, .inl (cI, 1024, .inl lh)), (ad 8, .inl (cI, 1024, .inl lw)), (ad 9, .inl (cL, 1024, .inr (.inl lb))), (ad 10, .inl (cI, 24, .inl wh)), (ad 11, .inl (cI, 24, .inl wv))] H := hP
    refine lv_aload_n hx hb dX4_weigh_31 rfl (lv_at hl 0 rfl) ?_
    refine va_get (D := (dC, dI)) (ci := 4) (v := .int 1) (C := RX4) (T := TX4) (N := 25) hx hb hts (xcons inX4) hown hK hP 0 rfl rfl 0 (by decide) hw0 (fun _ h9 => h9) rfl dX4_weigh_32 ?_
    refine lv_if_le (tgt := 40) hx hb dX4_weigh_35 (by decide) (fun h2 => absurd h2 (by decide)) (fun h2 => ?_)
    refine lv_iconst (v := 0) hx hb dX4_weigh_38 (by decide) ?_
    exact W.iret (v := 0) hx hb hr (fun t ht hW => ⟨⟨_, (1, wt, fo, nd, lo), rfl, hF, xBi ht hP⟩, hS.F ht⟩) hS.2.2 dX4_weigh_39
  · have hF := hF.trans (if_neg h1)
    have hk1 := h1
    refine lv_iload_n hx hb dX4_weigh_5 rfl (lv_at hl 1 rfl) ?_
    refine lv_aload_n hx hb dX4_weigh_6 rfl (lv_at hl 0 rfl) ?_
    refine va_get (D := (dC, dI)) (ci := 4) (v := .int (nI nc)) (C := RX4) (T := TX4) (N := 25) hx hb hts (xcons inX4) hown hK hP 0 rfl rfl 2 (by decide) hw1 (fun _ h9 => h9) rfl dX4_weigh_7 ?_
    refine lv_icmp_ge (tgt := 23) hx hb dX4_weigh_10 (by decide) (fun h3 => ?_) (fun h3 => ?_)
    · have hF := hF.trans (if_pos h3)
      refine lv_iconst (v := 1) hx hb dX4_weigh_23 (by decide) ?_
      refine lv_goto (tgt := 28) hx hb dX4_weigh_24 (by decide) ?_
      refine va_put (D := (dC, dI)) (ci := 4) (v := .int 1) (ty := .int) (C := RX4) (T := TX4) (N := 25) hx hb hts (xcons inX4) tyX4 tyX4_ok nX4 hown hK hP (xD hinj [0, 1, 2, 3, 4, 5, 6, 7, 8, 9, 10, 11] rfl (by decide) (by decide)) hS 0 rfl rfl 0 (by decide) hw0 (fun _ h9 => h9) rfl (by decide +kernel) rfl rfl (Nat.le_of_ble_eq_true rfl) dX4_weigh_28 (fun H locs hP _ hS => ?_)
      have hP : va_P (dC, dI) vwCl [(ad 0, .inr (4, [.int 1, .int (nI nv), .int (nI nc), .ref (ad 1), .ref (ad 2), .ref (ad 3), .int hp, .long bo, .int (nI su), .ref (ad 4), .ref (ad 5), .ref (ad 6), .int gh, .int gv, .int fo, .int bv, .long bc, .int nd, .int (nI lo), .ref (ad 7), .ref (ad 8), .ref (ad 9), .int (nI wa), .ref (ad 10), .ref (ad 11)])), (ad 1, .inl (cI, 40, .inl mt)), (ad 2, .inl (cI, 40, .inl mf)), (ad 3, .inl (cI, 40, .inl wt)), (ad 4, .inl (cL, 40, .inr (.inl ss))), (ad 5, .inl (cZ, 40, .inl av)), (ad 6, .inl (cI, 10, .inl re)), (ad 7, .inl (cI, 1024, .inl lh)), (ad 8, .inl (cI, 1024, .inl lw)), (ad 9, .inl (cL, 1024, .inr (.inl lb))), (ad 10, .inl (cI, 24, .inl wh)), (ad 11, .inl (cI, 24, .inl wv))] H := hP
      refine lv_aload_n hx hb dX4_weigh_31 rfl (lv_at hl 0 rfl) ?_
      refine va_get (D := (dC, dI)) (ci := 4) (v := .int 1) (C := RX4) (T := TX4) (N := 25) hx hb hts (xcons inX4) hown hK hP 0 rfl rfl 0 (by decide) hw0 (fun _ h9 => h9) rfl dX4_weigh_32 ?_
      refine lv_if_le (tgt := 40) hx hb dX4_weigh_35 (by decide) (fun h4 => absurd h4 (by decide)) (fun h4 => ?_)
      refine lv_iconst (v := 0) hx hb dX4_weigh_38 (by decide) ?_
      exact W.iret (v := 0) hx hb hr (fun t ht hW => ⟨⟨_, (1, wt, fo, nd, lo), rfl, hF, xBi ht hP⟩, hS.F ht⟩) hS.2.2 dX4_weigh_39
    · have hF := hF.trans (if_neg h3)
      have hk2 := h3
      refine lv_iload_n hx hb dX4_weigh_13 rfl (lv_at hl 2 rfl) ?_
      refine lv_if_lt (tgt := 23) hx hb dX4_weigh_14 (by decide) (fun h5 => ?_) (fun h5 => ?_)
      · have hF := hF.trans (if_pos h5)
        refine lv_iconst (v := 1) hx hb dX4_weigh_23 (by decide) ?_
        refine lv_goto (tgt := 28) hx hb dX4_weigh_24 (by decide) ?_
        refine va_put (D := (dC, dI)) (ci := 4) (v := .int 1) (ty := .int) (C := RX4) (T := TX4) (N := 25) hx hb hts (xcons inX4) tyX4 tyX4_ok nX4 hown hK hP (xD hinj [0, 1, 2, 3, 4, 5, 6, 7, 8, 9, 10, 11] rfl (by decide) (by decide)) hS 0 rfl rfl 0 (by decide) hw0 (fun _ h9 => h9) rfl (by decide +kernel) rfl rfl (Nat.le_of_ble_eq_true rfl) dX4_weigh_28 (fun H locs hP _ hS => ?_)
        have hP : va_P (dC, dI) vwCl [(ad 0, .inr (4, [.int 1, .int (nI nv), .int (nI nc), .ref (ad 1), .ref (ad 2), .ref (ad 3), .int hp, .long bo, .int (nI su), .ref (ad 4), .ref (ad 5), .ref (ad 6), .int gh, .int gv, .int fo, .int bv, .long bc, .int nd, .int (nI lo), .ref (ad 7), .ref (ad 8), .ref (ad 9), .int (nI wa), .ref (ad 10), .ref (ad 11)])), (ad 1, .inl (cI, 40, .inl mt)), (ad 2, .inl (cI, 40, .inl mf)), (ad 3, .inl (cI, 40, .inl wt)), (ad 4, .inl (cL, 40, .inr (.inl ss))), (ad 5, .inl (cZ, 40, .inl av)), (ad 6, .inl (cI, 10, .inl re)), (ad 7, .inl (cI, 1024, .inl lh)), (ad 8, .inl (cI, 1024, .inl lw)), (ad 9, .inl (cL, 1024, .inr (.inl lb))), (ad 10, .inl (cI, 24, .inl wh)), (ad 11, .inl (cI, 24, .inl wv))] H := hP
        refine lv_aload_n hx hb dX4_weigh_31 rfl (lv_at hl 0 rfl) ?_
        refine va_get (D := (dC, dI)) (ci := 4) (v := .int 1) (C := RX4) (T := TX4) (N := 25) hx hb hts (xcons inX4) hown hK hP 0 rfl rfl 0 (by decide) hw0 (fun _ h9 => h9) rfl dX4_weigh_32 ?_
        refine lv_if_le (tgt := 40) hx hb dX4_weigh_35 (by decide) (fun h6 => absurd h6 (by decide)) (fun h6 => ?_)
        refine lv_iconst (v := 0) hx hb dX4_weigh_38 (by decide) ?_
        exact W.iret (v := 0) hx hb hr (fun t ht hW => ⟨⟨_, (1, wt, fo, nd, lo), rfl, hF, xBi ht hP⟩, hS.F ht⟩) hS.2.2 dX4_weigh_39
      · have hF := hF.trans (if_neg h5)
        refine lv_iload_n hx hb dX4_weigh_17 rfl (lv_at hl 2 rfl) ?_
        refine lv_ldc hx hb hown hw2 dX4_weigh_18 ?_
        refine lv_icmp_le (tgt := 27) hx hb dX4_weigh_20 (by decide) (fun h7 => ?_) (fun h7 => ?_)
        · have hF := hF.trans (if_pos h7)
          refine lv_iconst (v := 0) hx hb dX4_weigh_27 (by decide) ?_
          refine va_put (D := (dC, dI)) (ci := 4) (v := .int 0) (ty := .int) (C := RX4) (T := TX4) (N := 25) hx hb hts (xcons inX4) tyX4 tyX4_ok nX4 hown hK hP (xD hinj [0, 1, 2, 3, 4, 5, 6, 7, 8, 9, 10, 11] rfl (by decide) (by decide)) hS 0 rfl rfl 0 (by decide) hw0 (fun _ h9 => h9) rfl (by decide +kernel) rfl rfl (Nat.le_of_ble_eq_true rfl) dX4_weigh_28 (fun H locs hP _ hS => ?_)
          have hP : va_P (dC, dI) vwCl [(ad 0, .inr (4, [.int 0, .int (nI nv), .int (nI nc), .ref (ad 1), .ref (ad 2), .ref (ad 3), .int hp, .long bo, .int (nI su), .ref (ad 4), .ref (ad 5), .ref (ad 6), .int gh, .int gv, .int fo, .int bv, .long bc, .int nd, .int (nI lo), .ref (ad 7), .ref (ad 8), .ref (ad 9), .int (nI wa), .ref (ad 10), .ref (ad 11)])), (ad 1, .inl (cI, 40, .inl mt)), (ad 2, .inl (cI, 40, .inl mf)), (ad 3, .inl (cI, 40, .inl wt)), (ad 4, .inl (cL, 40, .inr (.inl ss))), (ad 5, .inl (cZ, 40, .inl av)), (ad 6, .inl (cI, 10, .inl re)), (ad 7, .inl (cI, 1024, .inl lh)), (ad 8, .inl (cI, 1024, .inl lw)), (ad 9, .inl (cL, 1024, .inr (.inl lb))), (ad 10, .inl (cI, 24, .inl wh)), (ad 11, .inl (cI, 24, .inl wv))] H := hP
          refine lv_aload_n hx hb dX4_weigh_31 rfl (lv_at hl 0 rfl) ?_
          refine va_get (D := (dC, dI)) (ci := 4) (v := .int 0) (C := RX4) (T := TX4) (N := 25) hx hb hts (xcons inX4) hown hK hP 0 rfl rfl 0 (by decide) hw0 (fun _ h9 => h9) rfl dX4_weigh_32 ?_
          refine lv_if_le (tgt := 40) hx hb dX4_weigh_35 (by decide) (fun h8 => ?_) (fun h8 => absurd (by decide) h8)
          refine lv_aload_n hx hb dX4_weigh_40 rfl (lv_at hl 0 rfl) ?_
          refine va_get (D := (dC, dI)) (ci := 4) (v := .ref (ad 3)) (C := RX4) (T := TX4) (N := 25) hx hb hts (xcons inX4) hown hK hP 0 rfl rfl 5 (by decide) hw3 (fun _ h9 => h9) rfl dX4_weigh_41 ?_
          refine lv_iload_n hx hb dX4_weigh_44 rfl (lv_at hl 1 rfl) ?_
          refine va_iald hx hb hK hP 3 0 rfl rfl (xin hk1 hk2 (by omega) (by decide)) dX4_weigh_45 ?_
          refine lv_istore_n (lv' := [(3, .int (wt k.toNatClampNeg)), (0, .ref (ad 0)), (1, .int k), (2, .int w)]) hx hb dX4_weigh_46 rfl hl (by decide) rfl (fun ls hl => ?_)
          refine lv_aload_n hx hb dX4_weigh_47 rfl (lv_at hl 1 rfl) ?_
          refine va_get (D := (dC, dI)) (ci := 4) (v := .ref (ad 3)) (C := RX4) (T := TX4) (N := 25) hx hb hts (xcons inX4) hown hK hP 0 rfl rfl 5 (by decide) hw3 (fun _ h9 => h9) rfl dX4_weigh_48 ?_
          refine lv_iload_n hx hb dX4_weigh_51 rfl (lv_at hl 2 rfl) ?_
          refine lv_iload_n hx hb dX4_weigh_52 rfl (lv_at hl 3 rfl) ?_
          refine va_iast hx hb hK hP (xD hinj [0, 1, 2, 3, 4, 5, 6, 7, 8, 9, 10, 11] rfl (by decide) (by decide)) hS 3 0 rfl rfl (xin hk1 hk2 (by omega) (by decide)) dX4_weigh_53 (fun H locs hP _ hS => ?_)
          have hP : va_P (dC, dI) vwCl [(ad 0, .inr (4, [.int 0, .int (nI nv), .int (nI nc), .ref (ad 1), .ref (ad 2), .ref (ad 3), .int hp, .long bo, .int (nI su), .ref (ad 4), .ref (ad 5), .ref (ad 6), .int gh, .int gv, .int fo, .int bv, .long bc, .int nd, .int (nI lo), .ref (ad 7), .ref (ad 8), .ref (ad 9), .int (nI wa), .ref (ad 10), .ref (ad 11)])), (ad 1, .inl (cI, 40, .inl mt)), (ad 2, .inl (cI, 40, .inl mf)), (ad 3, .inl (cI, 40, .inl (upd wt k.toNatClampNeg w))), (ad 4, .inl (cL, 40, .inr (.inl ss))), (ad 5, .inl (cZ, 40, .inl av)), (ad 6, .inl (cI, 10, .inl re)), (ad 7, .inl (cI, 1024, .inl lh)), (ad 8, .inl (cI, 1024, .inl lw)), (ad 9, .inl (cL, 1024, .inr (.inl lb))), (ad 10, .inl (cI, 24, .inl wh)), (ad 11, .inl (cI, 24, .inl wv))] H := hP
          refine lv_aload_n hx hb dX4_weigh_54 rfl (lv_at hl 1 rfl) ?_
          refine xrw_v (va_runV (As := []) (rest := []) ⟨hx, hb, hml, hown, hts⟩ (k_forget l dC dI cI cL cZ ad hinj 0 nv nc mt mf (upd wt k.toNatClampNeg w) hp bo su ss av re gh gv fo bv bc nd lo lh lw lb wa wh wv) (xcwV 0 hts wd_633 wd_39 wd_630 wd_632 wd_18 rfl rfl (by decide +kernel) ⟨Nat.le_of_ble_eq_true rfl, Nat.le_of_ble_eq_true rfl⟩) (xpreV (va_recv hK hP rfl (q0 := 0) rfl) hP hK) rfl rfl hl.1 rfl (lv_room (Nat.le_of_ble_eq_true rfl)) dX4_weigh_55 ⟨Nat.le_of_ble_eq_true rfl, Nat.le_of_ble_eq_true rfl⟩) hS (xAsub (by decide)) (fun u H locs h9 hB hk hS => ?_)
          obtain ⟨fo1_55, nd1_55, lo1_55⟩ := u
          have hP : va_P (dC, dI) vwCl [(ad 0, .inr (4, [.int 0, .int (nI nv), .int (nI nc), .ref (ad 1), .ref (ad 2), .ref (ad 3), .int hp, .long bo, .int (nI su), .ref (ad 4), .ref (ad 5), .ref (ad 6), .int gh, .int gv, .int fo1_55, .int bv, .long bc, .int nd1_55, .int (nI lo1_55), .ref (ad 7), .ref (ad 8), .ref (ad 9), .int (nI wa), .ref (ad 10), .ref (ad 11)])), (ad 1, .inl (cI, 40, .inl mt)), (ad 2, .inl (cI, 40, .inl mf)), (ad 3, .inl (cI, 40, .inl (upd wt k.toNatClampNeg w))), (ad 4, .inl (cL, 40, .inr (.inl ss))), (ad 5, .inl (cZ, 40, .inl av)), (ad 6, .inl (cI, 10, .inl re)), (ad 7, .inl (cI, 1024, .inl lh)), (ad 8, .inl (cI, 1024, .inl lw)), (ad 9, .inl (cL, 1024, .inr (.inl lb))), (ad 10, .inl (cI, 24, .inl wh)), (ad 11, .inl (cI, 24, .inl wv))] H := va_P.sub hB [0, 1, 2, 3, 4, 5, 6, 7, 8, 9, 10, 11] rfl
          rw [h9] at hF
          try dsimp only at hF
          refine lv_iload_n hx hb dX4_weigh_58 rfl (lv_at hl 0 rfl) ?_
          exact W.iret (v := (wt k.toNatClampNeg)) hx hb hr (fun t ht hW => ⟨⟨_, (0, (upd wt k.toNatClampNeg w), fo1_55, nd1_55, lo1_55), rfl, hF, xBi ht hP⟩, hS.F ht⟩) hS.2.2 dX4_weigh_59
        · have hF := hF.trans (if_neg h7)
          refine lv_iconst (v := 1) hx hb dX4_weigh_23 (by decide) ?_
          refine lv_goto (tgt := 28) hx hb dX4_weigh_24 (by decide) ?_
          refine va_put (D := (dC, dI)) (ci := 4) (v := .int 1) (ty := .int) (C := RX4) (T := TX4) (N := 25) hx hb hts (xcons inX4) tyX4 tyX4_ok nX4 hown hK hP (xD hinj [0, 1, 2, 3, 4, 5, 6, 7, 8, 9, 10, 11] rfl (by decide) (by decide)) hS 0 rfl rfl 0 (by decide) hw0 (fun _ h9 => h9) rfl (by decide +kernel) rfl rfl (Nat.le_of_ble_eq_true rfl) dX4_weigh_28 (fun H locs hP _ hS => ?_)
          have hP : va_P (dC, dI) vwCl [(ad 0, .inr (4, [.int 1, .int (nI nv), .int (nI nc), .ref (ad 1), .ref (ad 2), .ref (ad 3), .int hp, .long bo, .int (nI su), .ref (ad 4), .ref (ad 5), .ref (ad 6), .int gh, .int gv, .int fo, .int bv, .long bc, .int nd, .int (nI lo), .ref (ad 7), .ref (ad 8), .ref (ad 9), .int (nI wa), .ref (ad 10), .ref (ad 11)])), (ad 1, .inl (cI, 40, .inl mt)), (ad 2, .inl (cI, 40, .inl mf)), (ad 3, .inl (cI, 40, .inl wt)), (ad 4, .inl (cL, 40, .inr (.inl ss))), (ad 5, .inl (cZ, 40, .inl av)), (ad 6, .inl (cI, 10, .inl re)), (ad 7, .inl (cI, 1024, .inl lh)), (ad 8, .inl (cI, 1024, .inl lw)), (ad 9, .inl (cL, 1024, .inr (.inl lb))), (ad 10, .inl (cI, 24, .inl wh)), (ad 11, .inl (cI, 24, .inl wv))] H := hP
          refine lv_aload_n hx hb dX4_weigh_31 rfl (lv_at hl 0 rfl) ?_
          refine va_get (D := (dC, dI)) (ci := 4) (v := .int 1) (C := RX4) (T := TX4) (N := 25) hx hb hts (xcons inX4) hown hK hP 0 rfl rfl 0 (by decide) hw0 (fun _ h9 => h9) rfl dX4_weigh_32 ?_
          refine lv_if_le (tgt := 40) hx hb dX4_weigh_35 (by decide) (fun h10 => absurd h10 (by decide)) (fun h10 => ?_)
          refine lv_iconst (v := 0) hx hb dX4_weigh_38 (by decide) ?_
          exact W.iret (v := 0) hx hb hr (fun t ht hW => ⟨⟨_, (1, wt, fo, nd, lo), rfl, hF, xBi ht hP⟩, hS.F ht⟩) hS.2.2 dX4_weigh_39
set_option maxHeartbeats 4000000 in
set_option maxRecDepth 100000 in
theorem k_cost (l : Launch) (dC : Nat → ClassId) (dI : Nat → Nat → Nat) (cI cL cZ : ClassId) (ad : Nat → Nat) (hinj : xI ad 12) (co : Int32) (nv : Nat) (nc : Nat) (mt : (Nat → Int32)) (mf : (Nat → Int32)) (wt : (Nat → Int32)) (hp : Int32) (bo : Int64) (su : Nat) (ss : (Nat → Int64)) (av : (Nat → Int32)) (re : (Nat → Int32)) (gh : Int32) (gv : Int32) (fo : Int32) (bv : Int32) (bc : Int64) (nd : Int32) (lo : Nat) (lh : (Nat → Int32)) (lw : (Nat → Int32)) (lb : (Nat → Int64)) (wa : Nat) (wh : (Nat → Int32)) (wv : (Nat → Int32)) (hnc : nc ≤ 40) (hnv : nv ≤ 10) (hv vl : Int32) : Met l yX4_cost wsX4_cost ({ frames := 3, cells := 0, slots := 0, locals := 71 }) (va_Pc [.ref (ad 0), .int hv, .int vl] (fun U => va_P (dC, dI) vwCl [(ad 0, .inr (4, [.int co, .int (nI nv), .int (nI nc), .ref (ad 1), .ref (ad 2), .ref (ad 3), .int hp, .long bo, .int (nI su), .ref (ad 4), .ref (ad 5), .ref (ad 6), .int gh, .int gv, .int fo, .int bv, .long bc, .int nd, .int (nI lo), .ref (ad 7), .ref (ad 8), .ref (ad 9), .int (nI wa), .ref (ad 10), .ref (ad 11)])), (ad 1, .inl (cI, 40, .inl mt)), (ad 2, .inl (cI, 40, .inl mf)), (ad 3, .inl (cI, 40, .inl wt)), (ad 4, .inl (cL, 40, .inr (.inl ss))), (ad 5, .inl (cZ, 40, .inl av)), (ad 6, .inl (cI, 10, .inl re)), (ad 7, .inl (cI, 1024, .inl lh)), (ad 8, .inl (cI, 1024, .inl lw)), (ad 9, .inl (cL, 1024, .inr (.inl lb))), (ad 10, .inl (cI, 24, .inl wh)), (ad 11, .inl (cI, 24, .inl wv))] U.heap ∧ va_K (dC, dI) vwCl [(cI, .int), (cL, .long), (cZ, .boolean)] U)) (va_Ql (fun r u => m_cost nv nc mt mf wt hv vl = (r, u)) (xB (dC, dI) vwCl (fun (u : Int32) => match u with | co1 => [(ad 0, .inr (4, [.int co1, .int (nI nv), .int (nI nc), .ref (ad 1), .ref (ad 2), .ref (ad 3), .int hp, .long bo, .int (nI su), .ref (ad 4), .ref (ad 5), .ref (ad 6), .int gh, .int gv, .int fo, .int bv, .long bc, .int nd, .int (nI lo), .ref (ad 7), .ref (ad 8), .ref (ad 9), .int (nI wa), .ref (ad 10), .ref (ad 11)])), (ad 1, .inl (cI, 40, .inl mt)), (ad 2, .inl (cI, 40, .inl mf)), (ad 3, .inl (cI, 40, .inl wt)), (ad 4, .inl (cL, 40, .inr (.inl ss))), (ad 5, .inl (cZ, 40, .inl av)), (ad 6, .inl (cI, 10, .inl re)), (ad 7, .inl (cI, 1024, .inl lh)), (ad 8, .inl (cI, 1024, .inl lw)), (ad 9, .inl (cL, 1024, .inr (.inl lb))), (ad 10, .inl (cI, 24, .inl wh)), (ad 11, .inl (cI, 24, .inl wv))])) (xA ad [0, 1, 2, 3, 4, 5, 6, 7, 8, 9, 10, 11])) 0 0 (xA ad [0, 1, 2, 3, 4, 5, 6, 7, 8, 9, 10, 11]) := by
  refine Met.ofW (cc := cX4_cost) (maxL := 3) (ret := (some .long)) (by decide) rfl ?_
  intro p e s m args below meth c s₁ B hml hvv
  obtain ⟨rfl, hP0, hK⟩ := hvv
  have hx := B.exec
  have hb := B.bytes
  have hr := B.returns
  have hts := atoms_spec (ws := wsX4_cost) B.pre
  have hown : s.vm.findClass RX4 = some m.cls := findClass_of_methodNamed B.named
  have hlocks := B.notSynchronized
  have hw0 : (.fieldLink RX4 49 "WeightedClausesModel" "code" "I" : Cond).before _ s = true := hts _ (List.mem_cons_of_mem _ wd_530)
  have hw1 : (.constantLong RX4 95 (-2) : Cond).before _ s = true := hts _ (List.mem_cons_of_mem _ wd_666)
  have hP : va_P (dC, dI) vwCl [(ad 0, .inr (4, [.int co, .int (nI nv), .int (nI nc), .ref (ad 1), .ref (ad 2), .ref (ad 3), .int hp, .long bo, .int (nI su), .ref (ad 4), .ref (ad 5), .ref (ad 6), .int gh, .int gv, .int fo, .int bv, .long bc, .int nd, .int (nI lo), .ref (ad 7), .ref (ad 8), .ref (ad 9), .int (nI wa), .ref (ad 10), .ref (ad 11)])), (ad 1, .inl (cI, 40, .inl mt)), (ad 2, .inl (cI, 40, .inl mf)), (ad 3, .inl (cI, 40, .inl wt)), (ad 4, .inl (cL, 40, .inr (.inl ss))), (ad 5, .inl (cZ, 40, .inl av)), (ad 6, .inl (cI, 10, .inl re)), (ad 7, .inl (cI, 1024, .inl lh)), (ad 8, .inl (cI, 1024, .inl lw)), (ad 9, .inl (cL, 1024, .inr (.inl lb))), (ad 10, .inl (cI, 24, .inl wh)), (ad 11, .inl (cI, 24, .inl wv))] s.heap := hP0.sub [0, 1, 2, 3, 4, 5, 6, 7, 8, 9, 10, 11] rfl
  have hS : va_S (xA ad [0, 1, 2, 3, 4, 5, 6, 7, 8, 9, 10, 11]) s.heap s.heap [] := va_S.rf
  have hl := lv_entry [.ref (ad 0), .int hv, .int vl] (n := 3) (Nat.le_of_ble_eq_true rfl)
  rw [lg_entry_eq]
  generalize (lg_sl [.ref (ad 0), .int hv, .int vl] ++ List.replicate (3 - (lg_sl [.ref (ad 0), .int hv, .int vl]).length) Slot.unset).toArray = ls at hl ⊢
  have hl : lv_has ls 3 [(0, .ref (ad 0)), (1, .int hv), (2, .int vl)] := hl
  have hF := Eq.refl (m_cost nv nc mt mf wt hv vl)
  conv at hF => rhs; unfold m_cost
  refine lv_aload_n hx hb dX4_cost_0 rfl (lv_at hl 0 rfl) ?_
  refine lv_aload_n hx hb dX4_cost_1 rfl (lv_at hl 0 rfl) ?_
  refine lv_iload_n hx hb dX4_cost_2 rfl (lv_at hl 1 rfl) ?_
  refine lv_iload_n hx hb dX4_cost_3 rfl (lv_at hl 2 rfl) ?_
  refine xro_i (va_runV (As := [.int hv, .int vl]) (rest := [.ref (ad 0)]) ⟨hx, hb, hml, hown, hts⟩ (k_noState l dC dI cI cL cZ ad hinj co nv nc mt mf wt hp bo su ss av re gh gv fo bv bc nd lo lh lw lb wa wh wv hv vl) (xcwV 2 hts wd_653 wd_39 wd_650 wd_652 wd_19 rfl rfl (by decide +kernel) ⟨Nat.le_of_ble_eq_true rfl, Nat.le_of_ble_eq_true rfl⟩) (xpreV (va_recv hK hP rfl (q0 := 0) rfl) hP hK) rfl rfl hl.1 rfl (lv_room (Nat.le_of_ble_eq_true rfl)) dX4_cost_4 ⟨Nat.le_of_ble_eq_true rfl, Nat.le_of_ble_eq_true rfl⟩) hS (fun H locs hk hS => ?_)
  have hP := xkeep hP hk
  refine lv_if_eq (tgt := 14) hx hb dX4_cost_7 (by decide) (fun h1 => ?_) (fun h1 => ?_)
  · have hF := hF.trans (if_pos h1)
    refine lv_iconst (v := 0) hx hb dX4_cost_14 (by decide) ?_
    refine va_put (D := (dC, dI)) (ci := 4) (v := .int 0) (ty := .int) (C := RX4) (T := TX4) (N := 25) hx hb hts (xcons inX4) tyX4 tyX4_ok nX4 hown hK hP (xD hinj [0, 1, 2, 3, 4, 5, 6, 7, 8, 9, 10, 11] rfl (by decide) (by decide)) hS 0 rfl rfl 0 (by decide) hw0 (fun _ h9 => h9) rfl (by decide +kernel) rfl rfl (Nat.le_of_ble_eq_true rfl) dX4_cost_15 (fun H locs hP _ hS => ?_)
    have hP : va_P (dC, dI) vwCl [(ad 0, .inr (4, [.int 0, .int (nI nv), .int (nI nc), .ref (ad 1), .ref (ad 2), .ref (ad 3), .int hp, .long bo, .int (nI su), .ref (ad 4), .ref (ad 5), .ref (ad 6), .int gh, .int gv, .int fo, .int bv, .long bc, .int nd, .int (nI lo), .ref (ad 7), .ref (ad 8), .ref (ad 9), .int (nI wa), .ref (ad 10), .ref (ad 11)])), (ad 1, .inl (cI, 40, .inl mt)), (ad 2, .inl (cI, 40, .inl mf)), (ad 3, .inl (cI, 40, .inl wt)), (ad 4, .inl (cL, 40, .inr (.inl ss))), (ad 5, .inl (cZ, 40, .inl av)), (ad 6, .inl (cI, 10, .inl re)), (ad 7, .inl (cI, 1024, .inl lh)), (ad 8, .inl (cI, 1024, .inl lw)), (ad 9, .inl (cL, 1024, .inr (.inl lb))), (ad 10, .inl (cI, 24, .inl wh)), (ad 11, .inl (cI, 24, .inl wv))] H := hP
    refine lv_aload_n hx hb dX4_cost_18 rfl (lv_at hl 0 rfl) ?_
    refine va_get (D := (dC, dI)) (ci := 4) (v := .int 0) (C := RX4) (T := TX4) (N := 25) hx hb hts (xcons inX4) hown hK hP 0 rfl rfl 0 (by decide) hw0 (fun _ h9 => h9) rfl dX4_cost_19 ?_
    refine lv_if_le (tgt := 27) hx hb dX4_cost_22 (by decide) (fun h2 => ?_) (fun h2 => absurd (by decide) h2)
    refine lv_aload_n hx hb dX4_cost_27 rfl (lv_at hl 0 rfl) ?_
    refine lv_iload_n hx hb dX4_cost_28 rfl (lv_at hl 1 rfl) ?_
    refine lv_iload_n hx hb dX4_cost_29 rfl (lv_at hl 2 rfl) ?_
    refine xro_i (va_runV (As := [.int hv, .int vl]) (rest := []) ⟨hx, hb, hml, hown, hts⟩ (k_breaks l dC dI cI cL cZ ad hinj 0 nv nc mt mf wt hp bo su ss av re gh gv fo bv bc nd lo lh lw lb wa wh wv (by omega) (by omega) hv vl) (xcwV 2 hts wd_657 wd_39 wd_654 wd_656 wd_20 rfl rfl (by decide +kernel) ⟨Nat.le_of_ble_eq_true rfl, Nat.le_of_ble_eq_true rfl⟩) (xpreV (va_recv hK hP rfl (q0 := 0) rfl) hP hK) rfl rfl hl.1 rfl (lv_room (Nat.le_of_ble_eq_true rfl)) dX4_cost_30 ⟨Nat.le_of_ble_eq_true rfl, Nat.le_of_ble_eq_true rfl⟩) hS (fun H locs hk hS => ?_)
    have hP := xkeep hP hk
    refine lv_if_eq (tgt := 42) hx hb dX4_cost_33 (by decide) (fun h3 => ?_) (fun h3 => ?_)
    · have hF := hF.trans (if_pos h3)
      refine lv_aload_n hx hb dX4_cost_42 rfl (lv_at hl 0 rfl) ?_
      refine lv_iload_n hx hb dX4_cost_43 rfl (lv_at hl 1 rfl) ?_
      refine lv_iload_n hx hb dX4_cost_44 rfl (lv_at hl 2 rfl) ?_
      refine xro_l (va_runV (As := [.int hv, .int vl]) (rest := []) ⟨hx, hb, hml, hown, hts⟩ (k_costOf l dC dI cI cL cZ ad hinj 0 nv nc mt mf wt hp bo su ss av re gh gv fo bv bc nd lo lh lw lb wa wh wv (by omega) (by omega) hv vl) (xcwV 2 hts wd_670 wd_39 wd_667 wd_669 wd_23 rfl rfl (by decide +kernel) ⟨Nat.le_of_ble_eq_true rfl, Nat.le_of_ble_eq_true rfl⟩) (xpreV (va_recv hK hP rfl (q0 := 0) rfl) hP hK) rfl rfl hl.1 rfl (lv_room (Nat.le_of_ble_eq_true rfl)) dX4_cost_45 ⟨Nat.le_of_ble_eq_true rfl, Nat.le_of_ble_eq_true rfl⟩) hS (fun H locs hk hS => ?_)
      have hP := xkeep hP hk
      exact W.lret (v := (m_costOf nc mt mf wt hv vl)) hx hb hr (fun t ht hW => ⟨⟨_, 0, rfl, hF, xBi ht hP⟩, hS.F ht⟩) hS.2.2 dX4_cost_48
    · have hF := hF.trans (if_neg h3)
      refine lv_ldc2 hx hb hown hw1 dX4_cost_36 ?_
      refine lv_goto (tgt := 48) hx hb dX4_cost_39 (by decide) ?_
      exact W.lret (v := (-2)) hx hb hr (fun t ht hW => ⟨⟨_, 0, rfl, hF, xBi ht hP⟩, hS.F ht⟩) hS.2.2 dX4_cost_48
  · have hF := hF.trans (if_neg h1)
    refine lv_iconst (v := 1) hx hb dX4_cost_10 (by decide) ?_
    refine lv_goto (tgt := 15) hx hb dX4_cost_11 (by decide) ?_
    refine va_put (D := (dC, dI)) (ci := 4) (v := .int 1) (ty := .int) (C := RX4) (T := TX4) (N := 25) hx hb hts (xcons inX4) tyX4 tyX4_ok nX4 hown hK hP (xD hinj [0, 1, 2, 3, 4, 5, 6, 7, 8, 9, 10, 11] rfl (by decide) (by decide)) hS 0 rfl rfl 0 (by decide) hw0 (fun _ h9 => h9) rfl (by decide +kernel) rfl rfl (Nat.le_of_ble_eq_true rfl) dX4_cost_15 (fun H locs hP _ hS => ?_)
    have hP : va_P (dC, dI) vwCl [(ad 0, .inr (4, [.int 1, .int (nI nv), .int (nI nc), .ref (ad 1), .ref (ad 2), .ref (ad 3), .int hp, .long bo, .int (nI su), .ref (ad 4), .ref (ad 5), .ref (ad 6), .int gh, .int gv, .int fo, .int bv, .long bc, .int nd, .int (nI lo), .ref (ad 7), .ref (ad 8), .ref (ad 9), .int (nI wa), .ref (ad 10), .ref (ad 11)])), (ad 1, .inl (cI, 40, .inl mt)), (ad 2, .inl (cI, 40, .inl mf)), (ad 3, .inl (cI, 40, .inl wt)), (ad 4, .inl (cL, 40, .inr (.inl ss))), (ad 5, .inl (cZ, 40, .inl av)), (ad 6, .inl (cI, 10, .inl re)), (ad 7, .inl (cI, 1024, .inl lh)), (ad 8, .inl (cI, 1024, .inl lw)), (ad 9, .inl (cL, 1024, .inr (.inl lb))), (ad 10, .inl (cI, 24, .inl wh)), (ad 11, .inl (cI, 24, .inl wv))] H := hP
    refine lv_aload_n hx hb dX4_cost_18 rfl (lv_at hl 0 rfl) ?_
    refine va_get (D := (dC, dI)) (ci := 4) (v := .int 1) (C := RX4) (T := TX4) (N := 25) hx hb hts (xcons inX4) hown hK hP 0 rfl rfl 0 (by decide) hw0 (fun _ h9 => h9) rfl dX4_cost_19 ?_
    refine lv_if_le (tgt := 27) hx hb dX4_cost_22 (by decide) (fun h4 => absurd h4 (by decide)) (fun h4 => ?_)
    refine lv_lconst (v := 0) hx hb dX4_cost_25 (by decide) ?_
    exact W.lret (v := 0) hx hb hr (fun t ht hW => ⟨⟨_, 1, rfl, hF, xBi ht hP⟩, hS.F ht⟩) hS.2.2 dX4_cost_26
set_option maxHeartbeats 4000000 in
set_option maxRecDepth 100000 in
theorem k_first (l : Launch) (dC : Nat → ClassId) (dI : Nat → Nat → Nat) (cI cL cZ : ClassId) (ad : Nat → Nat) (hinj : xI ad 12) (co : Int32) (nv : Nat) (nc : Nat) (mt : (Nat → Int32)) (mf : (Nat → Int32)) (wt : (Nat → Int32)) (hp : Int32) (bo : Int64) (su : Nat) (ss : (Nat → Int64)) (av : (Nat → Int32)) (re : (Nat → Int32)) (gh : Int32) (gv : Int32) (fo : Int32) (bv : Int32) (bc : Int64) (nd : Int32) (lo : Nat) (lh : (Nat → Int32)) (lw : (Nat → Int32)) (lb : (Nat → Int64)) (wa : Nat) (wh : (Nat → Int32)) (wv : (Nat → Int32)) (hnc : nc ≤ 40) (hnv : nv ≤ 10) (hv vl : Int32) : Met l yX4_first wsX4_first ({ frames := 3, cells := 0, slots := 0, locals := 75 }) (va_Pc [.ref (ad 0), .int hv, .int vl] (fun U => va_P (dC, dI) vwCl [(ad 0, .inr (4, [.int co, .int (nI nv), .int (nI nc), .ref (ad 1), .ref (ad 2), .ref (ad 3), .int hp, .long bo, .int (nI su), .ref (ad 4), .ref (ad 5), .ref (ad 6), .int gh, .int gv, .int fo, .int bv, .long bc, .int nd, .int (nI lo), .ref (ad 7), .ref (ad 8), .ref (ad 9), .int (nI wa), .ref (ad 10), .ref (ad 11)])), (ad 1, .inl (cI, 40, .inl mt)), (ad 2, .inl (cI, 40, .inl mf)), (ad 3, .inl (cI, 40, .inl wt)), (ad 4, .inl (cL, 40, .inr (.inl ss))), (ad 5, .inl (cZ, 40, .inl av)), (ad 6, .inl (cI, 10, .inl re)), (ad 7, .inl (cI, 1024, .inl lh)), (ad 8, .inl (cI, 1024, .inl lw)), (ad 9, .inl (cL, 1024, .inr (.inl lb))), (ad 10, .inl (cI, 24, .inl wh)), (ad 11, .inl (cI, 24, .inl wv))] U.heap ∧ va_K (dC, dI) vwCl [(cI, .int), (cL, .long), (cZ, .boolean)] U)) (va_Qi (fun r u => m_first nv nc mt mf hv vl = (r, u)) (xB (dC, dI) vwCl (fun (u : Int32) => match u with | co1 => [(ad 0, .inr (4, [.int co1, .int (nI nv), .int (nI nc), .ref (ad 1), .ref (ad 2), .ref (ad 3), .int hp, .long bo, .int (nI su), .ref (ad 4), .ref (ad 5), .ref (ad 6), .int gh, .int gv, .int fo, .int bv, .long bc, .int nd, .int (nI lo), .ref (ad 7), .ref (ad 8), .ref (ad 9), .int (nI wa), .ref (ad 10), .ref (ad 11)])), (ad 1, .inl (cI, 40, .inl mt)), (ad 2, .inl (cI, 40, .inl mf)), (ad 3, .inl (cI, 40, .inl wt)), (ad 4, .inl (cL, 40, .inr (.inl ss))), (ad 5, .inl (cZ, 40, .inl av)), (ad 6, .inl (cI, 10, .inl re)), (ad 7, .inl (cI, 1024, .inl lh)), (ad 8, .inl (cI, 1024, .inl lw)), (ad 9, .inl (cL, 1024, .inr (.inl lb))), (ad 10, .inl (cI, 24, .inl wh)), (ad 11, .inl (cI, 24, .inl wv))])) (xA ad [0, 1, 2, 3, 4, 5, 6, 7, 8, 9, 10, 11])) 0 0 (xA ad [0, 1, 2, 3, 4, 5, 6, 7, 8, 9, 10, 11]) := by
  refine Met.ofW (cc := cX4_first) (maxL := 3) (ret := (some .int)) (by decide) rfl ?_
  intro p e s m args below meth c s₁ B hml hvv
  obtain ⟨rfl, hP0, hK⟩ := hvv
  have hx := B.exec
  have hb := B.bytes
  have hr := B.returns
  have hts := atoms_spec (ws := wsX4_first) B.pre
  have hown : s.vm.findClass RX4 = some m.cls := findClass_of_methodNamed B.named
  have hlocks := B.notSynchronized
  have hw0 : (.fieldLink RX4 49 "WeightedClausesModel" "code" "I" : Cond).before _ s = true := hts _ (List.mem_cons_of_mem _ wd_530)
  have hP : va_P (dC, dI) vwCl [(ad 0, .inr (4, [.int co, .int (nI nv), .int (nI nc), .ref (ad 1), .ref (ad 2), .ref (ad 3), .int hp, .long bo, .int (nI su), .ref (ad 4), .ref (ad 5), .ref (ad 6), .int gh, .int gv, .int fo, .int bv, .long bc, .int nd, .int (nI lo), .ref (ad 7), .ref (ad 8), .ref (ad 9), .int (nI wa), .ref (ad 10), .ref (ad 11)])), (ad 1, .inl (cI, 40, .inl mt)), (ad 2, .inl (cI, 40, .inl mf)), (ad 3, .inl (cI, 40, .inl wt)), (ad 4, .inl (cL, 40, .inr (.inl ss))), (ad 5, .inl (cZ, 40, .inl av)), (ad 6, .inl (cI, 10, .inl re)), (ad 7, .inl (cI, 1024, .inl lh)), (ad 8, .inl (cI, 1024, .inl lw)), (ad 9, .inl (cL, 1024, .inr (.inl lb))), (ad 10, .inl (cI, 24, .inl wh)), (ad 11, .inl (cI, 24, .inl wv))] s.heap := hP0.sub [0, 1, 2, 3, 4, 5, 6, 7, 8, 9, 10, 11] rfl
  have hS : va_S (xA ad [0, 1, 2, 3, 4, 5, 6, 7, 8, 9, 10, 11]) s.heap s.heap [] := va_S.rf
  have hl := lv_entry [.ref (ad 0), .int hv, .int vl] (n := 3) (Nat.le_of_ble_eq_true rfl)
  rw [lg_entry_eq]
  generalize (lg_sl [.ref (ad 0), .int hv, .int vl] ++ List.replicate (3 - (lg_sl [.ref (ad 0), .int hv, .int vl]).length) Slot.unset).toArray = ls at hl ⊢
  have hl : lv_has ls 3 [(0, .ref (ad 0)), (1, .int hv), (2, .int vl)] := hl
  have hF := Eq.refl (m_first nv nc mt mf hv vl)
  conv at hF => rhs; unfold m_first
  refine lv_aload_n hx hb dX4_first_0 rfl (lv_at hl 0 rfl) ?_
  refine lv_aload_n hx hb dX4_first_1 rfl (lv_at hl 0 rfl) ?_
  refine lv_iload_n hx hb dX4_first_2 rfl (lv_at hl 1 rfl) ?_
  refine lv_iload_n hx hb dX4_first_3 rfl (lv_at hl 2 rfl) ?_
  refine xro_i (va_runV (As := [.int hv, .int vl]) (rest := [.ref (ad 0)]) ⟨hx, hb, hml, hown, hts⟩ (k_noState l dC dI cI cL cZ ad hinj co nv nc mt mf wt hp bo su ss av re gh gv fo bv bc nd lo lh lw lb wa wh wv hv vl) (xcwV 2 hts wd_653 wd_39 wd_650 wd_652 wd_19 rfl rfl (by decide +kernel) ⟨Nat.le_of_ble_eq_true rfl, Nat.le_of_ble_eq_true rfl⟩) (xpreV (va_recv hK hP rfl (q0 := 0) rfl) hP hK) rfl rfl hl.1 rfl (lv_room (Nat.le_of_ble_eq_true rfl)) dX4_first_4 ⟨Nat.le_of_ble_eq_true rfl, Nat.le_of_ble_eq_true rfl⟩) hS (fun H locs hk hS => ?_)
  have hP := xkeep hP hk
  refine lv_if_eq (tgt := 14) hx hb dX4_first_7 (by decide) (fun h1 => ?_) (fun h1 => ?_)
  · have hF := hF.trans (if_pos h1)
    refine lv_iconst (v := 0) hx hb dX4_first_14 (by decide) ?_
    refine va_put (D := (dC, dI)) (ci := 4) (v := .int 0) (ty := .int) (C := RX4) (T := TX4) (N := 25) hx hb hts (xcons inX4) tyX4 tyX4_ok nX4 hown hK hP (xD hinj [0, 1, 2, 3, 4, 5, 6, 7, 8, 9, 10, 11] rfl (by decide) (by decide)) hS 0 rfl rfl 0 (by decide) hw0 (fun _ h9 => h9) rfl (by decide +kernel) rfl rfl (Nat.le_of_ble_eq_true rfl) dX4_first_15 (fun H locs hP _ hS => ?_)
    have hP : va_P (dC, dI) vwCl [(ad 0, .inr (4, [.int 0, .int (nI nv), .int (nI nc), .ref (ad 1), .ref (ad 2), .ref (ad 3), .int hp, .long bo, .int (nI su), .ref (ad 4), .ref (ad 5), .ref (ad 6), .int gh, .int gv, .int fo, .int bv, .long bc, .int nd, .int (nI lo), .ref (ad 7), .ref (ad 8), .ref (ad 9), .int (nI wa), .ref (ad 10), .ref (ad 11)])), (ad 1, .inl (cI, 40, .inl mt)), (ad 2, .inl (cI, 40, .inl mf)), (ad 3, .inl (cI, 40, .inl wt)), (ad 4, .inl (cL, 40, .inr (.inl ss))), (ad 5, .inl (cZ, 40, .inl av)), (ad 6, .inl (cI, 10, .inl re)), (ad 7, .inl (cI, 1024, .inl lh)), (ad 8, .inl (cI, 1024, .inl lw)), (ad 9, .inl (cL, 1024, .inr (.inl lb))), (ad 10, .inl (cI, 24, .inl wh)), (ad 11, .inl (cI, 24, .inl wv))] H := hP
    refine lv_aload_n hx hb dX4_first_18 rfl (lv_at hl 0 rfl) ?_
    refine va_get (D := (dC, dI)) (ci := 4) (v := .int 0) (C := RX4) (T := TX4) (N := 25) hx hb hts (xcons inX4) hown hK hP 0 rfl rfl 0 (by decide) hw0 (fun _ h9 => h9) rfl dX4_first_19 ?_
    refine lv_if_le (tgt := 29) hx hb dX4_first_22 (by decide) (fun h2 => ?_) (fun h2 => absurd (by decide) h2)
    refine lv_aload_n hx hb dX4_first_29 rfl (lv_at hl 0 rfl) ?_
    refine lv_iload_n hx hb dX4_first_30 rfl (lv_at hl 1 rfl) ?_
    refine lv_iload_n hx hb dX4_first_31 rfl (lv_at hl 2 rfl) ?_
    refine xro_i (va_runV (As := [.int hv, .int vl]) (rest := []) ⟨hx, hb, hml, hown, hts⟩ (k_firstOf l dC dI cI cL cZ ad hinj 0 nv nc mt mf wt hp bo su ss av re gh gv fo bv bc nd lo lh lw lb wa wh wv (by omega) (by omega) hv vl) (xcwV 2 hts wd_710 wd_39 wd_707 wd_709 wd_30 rfl rfl (by decide +kernel) ⟨Nat.le_of_ble_eq_true rfl, Nat.le_of_ble_eq_true rfl⟩) (xpreV (va_recv hK hP rfl (q0 := 0) rfl) hP hK) rfl rfl hl.1 rfl (lv_room (Nat.le_of_ble_eq_true rfl)) dX4_first_32 ⟨Nat.le_of_ble_eq_true rfl, Nat.le_of_ble_eq_true rfl⟩) hS (fun H locs hk hS => ?_)
    have hP := xkeep hP hk
    exact W.iret (v := (m_firstOf nv nc mt mf hv vl)) hx hb hr (fun t ht hW => ⟨⟨_, 0, rfl, hF, xBi ht hP⟩, hS.F ht⟩) hS.2.2 dX4_first_35
  · have hF := hF.trans (if_neg h1)
    refine lv_iconst (v := 1) hx hb dX4_first_10 (by decide) ?_
    refine lv_goto (tgt := 15) hx hb dX4_first_11 (by decide) ?_
    refine va_put (D := (dC, dI)) (ci := 4) (v := .int 1) (ty := .int) (C := RX4) (T := TX4) (N := 25) hx hb hts (xcons inX4) tyX4 tyX4_ok nX4 hown hK hP (xD hinj [0, 1, 2, 3, 4, 5, 6, 7, 8, 9, 10, 11] rfl (by decide) (by decide)) hS 0 rfl rfl 0 (by decide) hw0 (fun _ h9 => h9) rfl (by decide +kernel) rfl rfl (Nat.le_of_ble_eq_true rfl) dX4_first_15 (fun H locs hP _ hS => ?_)
    have hP : va_P (dC, dI) vwCl [(ad 0, .inr (4, [.int 1, .int (nI nv), .int (nI nc), .ref (ad 1), .ref (ad 2), .ref (ad 3), .int hp, .long bo, .int (nI su), .ref (ad 4), .ref (ad 5), .ref (ad 6), .int gh, .int gv, .int fo, .int bv, .long bc, .int nd, .int (nI lo), .ref (ad 7), .ref (ad 8), .ref (ad 9), .int (nI wa), .ref (ad 10), .ref (ad 11)])), (ad 1, .inl (cI, 40, .inl mt)), (ad 2, .inl (cI, 40, .inl mf)), (ad 3, .inl (cI, 40, .inl wt)), (ad 4, .inl (cL, 40, .inr (.inl ss))), (ad 5, .inl (cZ, 40, .inl av)), (ad 6, .inl (cI, 10, .inl re)), (ad 7, .inl (cI, 1024, .inl lh)), (ad 8, .inl (cI, 1024, .inl lw)), (ad 9, .inl (cL, 1024, .inr (.inl lb))), (ad 10, .inl (cI, 24, .inl wh)), (ad 11, .inl (cI, 24, .inl wv))] H := hP
    refine lv_aload_n hx hb dX4_first_18 rfl (lv_at hl 0 rfl) ?_
    refine va_get (D := (dC, dI)) (ci := 4) (v := .int 1) (C := RX4) (T := TX4) (N := 25) hx hb hts (xcons inX4) hown hK hP 0 rfl rfl 0 (by decide) hw0 (fun _ h9 => h9) rfl dX4_first_19 ?_
    refine lv_if_le (tgt := 29) hx hb dX4_first_22 (by decide) (fun h3 => absurd h3 (by decide)) (fun h3 => ?_)
    refine lv_iconst (v := 0) hx hb dX4_first_25 (by decide) ?_
    refine lv_goto (tgt := 35) hx hb dX4_first_26 (by decide) ?_
    exact W.iret (v := 0) hx hb hr (fun t ht hW => ⟨⟨_, 1, rfl, hF, xBi ht hP⟩, hS.F ht⟩) hS.2.2 dX4_first_35
