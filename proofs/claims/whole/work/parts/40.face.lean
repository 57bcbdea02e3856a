def f_variables (nv : Nat) : Int32 :=
  (nI nv)
def f_clauses (nc : Nat) : Int32 :=
  (nI nc)
def f_nodes (nd : Int32) : Int32 :=
  nd
def f_logged (lc : Nat) : Int32 :=
  (nI lc)
def f_value (nv : Nat) (bc : Int64) (bv v : Int32) : Int32 :=
  if v < 0 then
    (-1)
  else
    if (nI nv) ≤ v then
      (-1)
    else
      if (f_hasBest bc) = 0 then
        (-1)
      else
        ((bv >>> (v &&& 31)) &&& 1)
def f_log (lc : Nat) (lh lw : Nat → Int32) (k what : Int32) : Int32 :=
  if (f_isLogged lc k) = 0 then
    (-1)
  else
    if what = 0 then
      (lh k.toNatClampNeg)
    else
      if what = 1 then
        (lw k.toNatClampNeg)
      else
        (-1)
def f_best (lc : Nat) (lb : Nat → Int64) (k : Int32) : Int64 :=
  if (f_isLogged lc k) = 0 then
    (-1)
  else
    (lb k.toNatClampNeg)
def f_isState (av hv vl : Int32) : Int32 :=
  if (hv &&& (av ^^^ (-1))) = 0 then
    if (vl &&& (hv ^^^ (-1))) = 0 then
      1
    else
      0
  else
    0
def f_isLiteralOrAbsent (nv : Nat) (x : Int32) : Int32 :=
  if x < (-1) then
    0
  else
    if (2 * (nI nv)) ≤ x then
      0
    else
      1
set_option maxHeartbeats 4000000 in
set_option maxRecDepth 100000 in
theorem c_variables (l : Launch) (dC : Nat → ClassId) (dI : Nat → Nat → Nat) (cI cL cZ : ClassId) (ad : Nat → Nat) (hinj : xI ad 15) (nv : Nat) (av : Int32) (nc : Nat) (mt mf wt : Nat → Int32) : Met l yX3_variables wsX3_variables ({ frames := 0, cells := 0, slots := 0, locals := 0 }) (va_Pc [.ref (ad 0)] (fun U => va_P (dC, dI) vwCl [(ad 0, .inr (3, [.ref (ad 1), .ref (ad 5), .ref (ad 9)])), (ad 1, .inr (1, [.int (nI nv), .int av, .int (nI nc), .ref (ad 2), .ref (ad 3), .ref (ad 4)])), (ad 2, .inl (cI, 40, .inl mt)), (ad 3, .inl (cI, 40, .inl mf)), (ad 4, .inl (cI, 40, .inl wt))] U.heap ∧ va_K (dC, dI) vwCl [(cI, .int), (cL, .long), (cZ, .boolean)] U)) (va_Qi (fun r (_ : Unit) => f_variables nv = r) (fun _ _ => True) xN) 0 0 xN := by
  refine Met.ofW (cc := cX3_variables) (maxL := 1) (ret := (some .int)) (by decide) rfl ?_
  intro p e s m args below meth c s₁ B hml hvv
  obtain ⟨rfl, hP0, hK⟩ := hvv
  have hx := B.exec
  have hb := B.bytes
  have hr := B.returns
  have hts := atoms_spec (ws := wsX3_variables) B.pre
  have hown : s.vm.findClass RX3 = some m.cls := findClass_of_methodNamed B.named
  have hlocks := B.notSynchronized
  have hw0 : (.fieldLink RX3 23 "WeightedClauses" "formula" "LWeightedClauses$Formula;" : Cond).before _ s = true := hts _ (List.mem_cons_of_mem _ wd_178)
  have hw1 : (.fieldLink RX3 45 "WeightedClauses$Formula" "variableCount" "I" : Cond).before _ s = true := hts _ (List.mem_cons_of_mem _ wd_68)
  have hPr : va_P (dC, dI) vwCl [(ad 0, .inr (3, [.ref (ad 1), .ref (ad 5), .ref (ad 9)])), (ad 1, .inr (1, [.int (nI nv), .int av, .int (nI nc), .ref (ad 2), .ref (ad 3), .ref (ad 4)])), (ad 2, .inl (cI, 40, .inl mt)), (ad 3, .inl (cI, 40, .inl mf)), (ad 4, .inl (cI, 40, .inl wt))] s.heap := hP0.sub [0, 1, 2, 3, 4] rfl
  have hS : va_S xN s.heap s.heap [] := va_S.rf
  have hl := lv_entry [.ref (ad 0)] (n := 1) (Nat.le_of_ble_eq_true rfl)
  rw [lg_entry_eq]
  generalize (lg_sl [.ref (ad 0)] ++ List.replicate (1 - (lg_sl [.ref (ad 0)]).length) Slot.unset).toArray = ls at hl ⊢
  have hl : lv_has ls 1 [(0, .ref (ad 0))] := hl
  have hF := Eq.refl (f_variables nv)
  conv at hF => rhs; unfold f_variables
  refine lv_aload_n hx hb dX3_variables_0 rfl (lv_at hl 0 rfl) ?_
  have hR := xP0 hPr xnN hS
  refine va_get (D := (dC, dI)) (ci := 3) (v := .ref (ad 1)) (C := RX3) (T := TX3) (N := 3) hx hb hts (xcons inX3) hown hK hR 0 rfl rfl 0 (by decide) hw0 (fun _ h9 => h9) rfl dX3_variables_1 ?_
  refine va_get (D := (dC, dI)) (ci := 1) (v := .int (nI nv)) (C := RX1) (T := TX1) (N := 6) hx hb hts (xcons inX1) hown hK hR 1 rfl rfl 0 (by decide) hw1 (fun _ h9 => h9) rfl dX3_variables_4 ?_
  exact W.iret (v := (nI nv)) hx hb hr (fun t ht hW => ⟨⟨_, (), rfl, hF, trivial⟩, hS.F ht⟩) hS.2.2 dX3_variables_7
set_option maxHeartbeats 4000000 in
set_option maxRecDepth 100000 in
theorem c_clauses (l : Launch) (dC : Nat → ClassId) (dI : Nat → Nat → Nat) (cI cL cZ : ClassId) (ad : Nat → Nat) (hinj : xI ad 15) (nv : Nat) (av : Int32) (nc : Nat) (mt mf wt : Nat → Int32) : Met l yX3_clauses wsX3_clauses ({ frames := 0, cells := 0, slots := 0, locals := 0 }) (va_Pc [.ref (ad 0)] (fun U => va_P (dC, dI) vwCl [(ad 0, .inr (3, [.ref (ad 1), .ref (ad 5), .ref (ad 9)])), (ad 1, .inr (1, [.int (nI nv), .int av, .int (nI nc), .ref (ad 2), .ref (ad 3), .ref (ad 4)])), (ad 2, .inl (cI, 40, .inl mt)), (ad 3, .inl (cI, 40, .inl mf)), (ad 4, .inl (cI, 40, .inl wt))] U.heap ∧ va_K (dC, dI) vwCl [(cI, .int), (cL, .long), (cZ, .boolean)] U)) (va_Qi (fun r (_ : Unit) => f_clauses nc = r) (fun _ _ => True) xN) 0 0 xN := by
  refine Met.ofW (cc := cX3_clauses) (maxL := 1) (ret := (some .int)) (by decide) rfl ?_
  intro p e s m args below meth c s₁ B hml hvv
  obtain ⟨rfl, hP0, hK⟩ := hvv
  have hx := B.exec
  have hb := B.bytes
  have hr := B.returns
  have hts := atoms_spec (ws := wsX3_clauses) B.pre
  have hown : s.vm.findClass RX3 = some m.cls := findClass_of_methodNamed B.named
  have hlocks := B.notSynchronized
  have hw0 : (.fieldLink RX3 23 "WeightedClauses" "formula" "LWeightedClauses$Formula;" : Cond).before _ s = true := hts _ (List.mem_cons_of_mem _ wd_178)
  have hw1 : (.fieldLink RX3 60 "WeightedClauses$Formula" "clauseCount" "I" : Cond).before _ s = true := hts _ (List.mem_cons_of_mem _ wd_73)
  have hPr : va_P (dC, dI) vwCl [(ad 0, .inr (3, [.ref (ad 1), .ref (ad 5), .ref (ad 9)])), (ad 1, .inr (1, [.int (nI nv), .int av, .int (nI nc), .ref (ad 2), .ref (ad 3), .ref (ad 4)])), (ad 2, .inl (cI, 40, .inl mt)), (ad 3, .inl (cI, 40, .inl mf)), (ad 4, .inl (cI, 40, .inl wt))] s.heap := hP0.sub [0, 1, 2, 3, 4] rfl
  have hS : va_S xN s.heap s.heap [] := va_S.rf
  have hl := lv_entry [.ref (ad 0)] (n := 1) (Nat.le_of_ble_eq_true rfl)
  rw [lg_entry_eq]
  generalize (lg_sl [.ref (ad 0)] ++ List.replicate (1 - (lg_sl [.ref (ad 0)]).length) Slot.unset).toArray = ls at hl ⊢
  have hl : lv_has ls 1 [(0, .ref (ad 0))] := hl
  have hF := Eq.refl (f_clauses nc)
  conv at hF => rhs; unfold f_clauses
  refine lv_aload_n hx hb dX3_clauses_0 rfl (lv_at hl 0 rfl) ?_
  have hR := xP0 hPr xnN hS
  refine va_get (D := (dC, dI)) (ci := 3) (v := .ref (ad 1)) (C := RX3) (T := TX3) (N := 3) hx hb hts (xcons inX3) hown hK hR 0 rfl rfl 0 (by decide) hw0 (fun _ h9 => h9) rfl dX3_clauses_1 ?_
  refine va_get (D := (dC, dI)) (ci := 1) (v := .int (nI nc)) (C := RX1) (T := TX1) (N := 6) hx hb hts (xcons inX1) hown hK hR 1 rfl rfl 2 (by decide) hw1 (fun _ h9 => h9) rfl dX3_clauses_4 ?_
  exact W.iret (v := (nI nc)) hx hb hr (fun t ht hW => ⟨⟨_, (), rfl, hF, trivial⟩, hS.F ht⟩) hS.2.2 dX3_clauses_7
set_option maxHeartbeats 4000000 in
set_option maxRecDepth 100000 in
theorem c_nodes (l : Launch) (dC : Nat → ClassId) (dI : Nat → Nat → Nat) (cI cL cZ : ClassId) (ad : Nat → Nat) (hinj : xI ad 15) (lz : Nat) (nd : Int32) (lc : Nat) (bc : Int64) (bv : Int32) (lh lw : Nat → Int32) (lb : Nat → Int64) (wh wv : Nat → Int32) (wc : Nat) : Met l yX3_nodes wsX3_nodes ({ frames := 0, cells := 0, slots := 0, locals := 0 }) (va_Pc [.ref (ad 0)] (fun U => va_P (dC, dI) vwCl [(ad 0, .inr (3, [.ref (ad 1), .ref (ad 5), .ref (ad 9)])), (ad 9, .inr (2, [.int nd, .int (nI lc), .long bc, .int bv, .ref (ad 10), .ref (ad 11), .ref (ad 12), .ref (ad 1), .ref (ad 5), .ref (ad 13), .ref (ad 14), .int (nI wc)])), (ad 10, .inl (cI, lz, .inl lh)), (ad 11, .inl (cI, lz, .inl lw)), (ad 12, .inl (cL, lz, .inr (.inl lb))), (ad 13, .inl (cI, 11, .inl wh)), (ad 14, .inl (cI, 11, .inl wv))] U.heap ∧ va_K (dC, dI) vwCl [(cI, .int), (cL, .long), (cZ, .boolean)] U)) (va_Qi (fun r (_ : Unit) => f_nodes nd = r) (fun _ _ => True) xN) 0 0 xN := by
  refine Met.ofW (cc := cX3_nodes) (maxL := 1) (ret := (some .int)) (by decide) rfl ?_
  intro p e s m args below meth c s₁ B hml hvv
  obtain ⟨rfl, hP0, hK⟩ := hvv
  have hx := B.exec
  have hb := B.bytes
  have hr := B.returns
  have hts := atoms_spec (ws := wsX3_nodes) B.pre
  have hown : s.vm.findClass RX3 = some m.cls := findClass_of_methodNamed B.named
  have hlocks := B.notSynchronized
  have hw0 : (.fieldLink RX3 41 "WeightedClauses" "search" "LWeightedClauses$Search;" : Cond).before _ s = true := hts _ (List.mem_cons_of_mem _ wd_180)
  have hw1 : (.fieldLink RX3 121 "WeightedClauses$Search" "nodeCount" "I" : Cond).before _ s = true := hts _ (List.mem_cons_of_mem _ wd_135)
  have hPr : va_P (dC, dI) vwCl [(ad 0, .inr (3, [.ref (ad 1), .ref (ad 5), .ref (ad 9)])), (ad 9, .inr (2, [.int nd, .int (nI lc), .long bc, .int bv, .ref (ad 10), .ref (ad 11), .ref (ad 12), .ref (ad 1), .ref (ad 5), .ref (ad 13), .ref (ad 14), .int (nI wc)])), (ad 10, .inl (cI, lz, .inl lh)), (ad 11, .inl (cI, lz, .inl lw)), (ad 12, .inl (cL, lz, .inr (.inl lb))), (ad 13, .inl (cI, 11, .inl wh)), (ad 14, .inl (cI, 11, .inl wv))] s.heap := hP0.sub [0, 1, 2, 3, 4, 5, 6] rfl
  have hS : va_S xN s.heap s.heap [] := va_S.rf
  have hl := lv_entry [.ref (ad 0)] (n := 1) (Nat.le_of_ble_eq_true rfl)
  rw [lg_entry_eq]
  generalize (lg_sl [.ref (ad 0)] ++ List.replicate (1 - (lg_sl [.ref (ad 0)]).length) Slot.unset).toArray = ls at hl ⊢
  have hl : lv_has ls 1 [(0, .ref (ad 0))] := hl
  have hF := Eq.refl (f_nodes nd)
  conv at hF => rhs; unfold f_nodes
  refine lv_aload_n hx hb dX3_nodes_0 rfl (lv_at hl 0 rfl) ?_
  have hR := xP0 hPr xnN hS
  refine va_get (D := (dC, dI)) (ci := 3) (v := .ref (ad 9)) (C := RX3) (T := TX3) (N := 3) hx hb hts (xcons inX3) hown hK hR 0 rfl rfl 2 (by decide) hw0 (fun _ h9 => h9) rfl dX3_nodes_1 ?_
  refine va_get (D := (dC, dI)) (ci := 2) (v := .int nd) (C := RX2) (T := TX2) (N := 12) hx hb hts (xcons inX2) hown hK hR 1 rfl rfl 0 (by decide) hw1 (fun _ h9 => h9) rfl dX3_nodes_4 ?_
  exact W.iret (v := nd) hx hb hr (fun t ht hW => ⟨⟨_, (), rfl, hF, trivial⟩, hS.F ht⟩) hS.2.2 dX3_nodes_7
set_option maxHeartbeats 4000000 in
set_option maxRecDepth 100000 in
theorem c_logged (l : Launch) (dC : Nat → ClassId) (dI : Nat → Nat → Nat) (cI cL cZ : ClassId) (ad : Nat → Nat) (hinj : xI ad 15) (lz : Nat) (nd : Int32) (lc : Nat) (bc : Int64) (bv : Int32) (lh lw : Nat → Int32) (lb : Nat → Int64) (wh wv : Nat → Int32) (wc : Nat) : Met l yX3_logged wsX3_logged ({ frames := 0, cells := 0, slots := 0, locals := 0 }) (va_Pc [.ref (ad 0)] (fun U => va_P (dC, dI) vwCl [(ad 0, .inr (3, [.ref (ad 1), .ref (ad 5), .ref (ad 9)])), (ad 9, .inr (2, [.int nd, .int (nI lc), .long bc, .int bv, .ref (ad 10), .ref (ad 11), .ref (ad 12), .ref (ad 1), .ref (ad 5), .ref (ad 13), .ref (ad 14), .int (nI wc)])), (ad 10, .inl (cI, lz, .inl lh)), (ad 11, .inl (cI, lz, .inl lw)), (ad 12, .inl (cL, lz, .inr (.inl lb))), (ad 13, .inl (cI, 11, .inl wh)), (ad 14, .inl (cI, 11, .inl wv))] U.heap ∧ va_K (dC, dI) vwCl [(cI, .int), (cL, .long), (cZ, .boolean)] U)) (va_Qi (fun r (_ : Unit) => f_logged lc = r) (fun _ _ => True) xN) 0 0 xN := by
  refine Met.ofW (cc := cX3_logged) (maxL := 1) (ret := (some .int)) (by decide) rfl ?_
  intro p e s m args below meth c s₁ B hml hvv
  obtain ⟨rfl, hP0, hK⟩ := hvv
  have hx := B.exec
  have hb := B.bytes
  have hr := B.returns
  have hts := atoms_spec (ws := wsX3_logged) B.pre
  have hown : s.vm.findClass RX3 = some m.cls := findClass_of_methodNamed B.named
  have hlocks := B.notSynchronized
  have hw0 : (.fieldLink RX3 41 "WeightedClauses" "search" "LWeightedClauses$Search;" : Cond).before _ s = true := hts _ (List.mem_cons_of_mem _ wd_180)
  have hw1 : (.fieldLink RX3 124 "WeightedClauses$Search" "logCount" "I" : Cond).before _ s = true := hts _ (List.mem_cons_of_mem _ wd_137)
  have hPr : va_P (dC, dI) vwCl [(ad 0, .inr (3, [.ref (ad 1), .ref (ad 5), .ref (ad 9)])), (ad 9, .inr (2, [.int nd, .int (nI lc), .long bc, .int bv, .ref (ad 10), .ref (ad 11), .ref (ad 12), .ref (ad 1), .ref (ad 5), .ref (ad 13), .ref (ad 14), .int (nI wc)])), (ad 10, .inl (cI, lz, .inl lh)), (ad 11, .inl (cI, lz, .inl lw)), (ad 12, .inl (cL, lz, .inr (.inl lb))), (ad 13, .inl (cI, 11, .inl wh)), (ad 14, .inl (cI, 11, .inl wv))] s.heap := hP0.sub [0, 1, 2, 3, 4, 5, 6] rfl
  have hS : va_S xN s.heap s.heap [] := va_S.rf
  have hl := lv_entry [.ref (ad 0)] (n := 1) (Nat.le_of_ble_eq_true rfl)
  rw [lg_entry_eq]
  generalize (lg_sl [.ref (ad 0)] ++ List.replicate (1 - (lg_sl [.ref (ad 0)]).length) Slot.unset).toArray = ls at hl ⊢
  have hl : lv_has ls 1 [(0, .ref (ad 0))] := hl
  have hF := Eq.refl (f_logged lc)
  conv at hF => rhs; unfold f_logged
  refine lv_aload_n hx hb dX3_logged_0 rfl (lv_at hl 0 rfl) ?_
  have hR := xP0 hPr xnN hS
  refine va_get (D := (dC, dI)) (ci := 3) (v := .ref (ad 9)) (C := RX3) (T := TX3) (N := 3) hx hb hts (xcons inX3) hown hK hR 0 rfl rfl 2 (by decide) hw0 (fun _ h9 => h9) rfl dX3_logged_1 ?_
  refine va_get (D := (dC, dI)) (ci := 2) (v := .int (nI lc)) (C := RX2) (T := TX2) (N := 12) hx hb hts (xcons inX2) hown hK hR 1 rfl rfl 1 (by decide) hw1 (fun _ h9 => h9) rfl dX3_logged_4 ?_
  exact W.iret (v := (nI lc)) hx hb hr (fun t ht hW => ⟨⟨_, (), rfl, hF, trivial⟩, hS.F ht⟩) hS.2.2 dX3_logged_7
set_option maxHeartbeats 4000000 in
set_option maxRecDepth 100000 in
theorem c_value (l : Launch) (dC : Nat → ClassId) (dI : Nat → Nat → Nat) (cI cL cZ : ClassId) (ad : Nat → Nat) (hinj : xI ad 15) (nv : Nat) (av : Int32) (nc : Nat) (mt mf wt : Nat → Int32) (lz : Nat) (nd : Int32) (lc : Nat) (bc : Int64) (bv : Int32) (lh lw : Nat → Int32) (lb : Nat → Int64) (wh wv : Nat → Int32) (wc : Nat) (v : Int32) : Met l yX3_value wsX3_value ({ frames := 1, cells := 0, slots := 0, locals := 20 }) (va_Pc [.ref (ad 0), .int v] (fun U => va_P (dC, dI) vwCl [(ad 0, .inr (3, [.ref (ad 1), .ref (ad 5), .ref (ad 9)])), (ad 1, .inr (1, [.int (nI nv), .int av, .int (nI nc), .ref (ad 2), .ref (ad 3), .ref (ad 4)])), (ad 2, .inl (cI, 40, .inl mt)), (ad 3, .inl (cI, 40, .inl mf)), (ad 4, .inl (cI, 40, .inl wt)), (ad 9, .inr (2, [.int nd, .int (nI lc), .long bc, .int bv, .ref (ad 10), .ref (ad 11), .ref (ad 12), .ref (ad 1), .ref (ad 5), .ref (ad 13), .ref (ad 14), .int (nI wc)])), (ad 10, .inl (cI, lz, .inl lh)), (ad 11, .inl (cI, lz, .inl lw)), (ad 12, .inl (cL, lz, .inr (.inl lb))), (ad 13, .inl (cI, 11, .inl wh)), (ad 14, .inl (cI, 11, .inl wv))] U.heap ∧ va_K (dC, dI) vwCl [(cI, .int), (cL, .long), (cZ, .boolean)] U)) (va_Qi (fun r (_ : Unit) => f_value nv bc bv v = r) (fun _ _ => True) xN) 0 0 xN := by
  refine Met.ofW (cc := cX3_value) (maxL := 2) (ret := (some .int)) (by decide) rfl ?_
  intro p e s m args below meth c s₁ B hml hvv
  obtain ⟨rfl, hP0, hK⟩ := hvv
  have hx := B.exec
  have hb := B.bytes
  have hr := B.returns
  have hts := atoms_spec (ws := wsX3_value) B.pre
  have hown : s.vm.findClass RX3 = some m.cls := findClass_of_methodNamed B.named
  have hlocks := B.notSynchronized
  have hw0 : (.fieldLink RX3 23 "WeightedClauses" "formula" "LWeightedClauses$Formula;" : Cond).before _ s = true := hts _ (List.mem_cons_of_mem _ wd_178)
  have hw1 : (.fieldLink RX3 45 "WeightedClauses$Formula" "variableCount" "I" : Cond).before _ s = true := hts _ (List.mem_cons_of_mem _ wd_68)
  have hw2 : (.fieldLink RX3 41 "WeightedClauses" "search" "LWeightedClauses$Search;" : Cond).before _ s = true := hts _ (List.mem_cons_of_mem _ wd_180)
  have hw3 : (.fieldLink RX3 118 "WeightedClauses$Search" "bestValues" "I" : Cond).before _ s = true := hts _ (List.mem_cons_of_mem _ wd_141)
  have hPr : va_P (dC, dI) vwCl [(ad 0, .inr (3, [.ref (ad 1), .ref (ad 5), .ref (ad 9)])), (ad 1, .inr (1, [.int (nI nv), .int av, .int (nI nc), .ref (ad 2), .ref (ad 3), .ref (ad 4)])), (ad 2, .inl (cI, 40, .inl mt)), (ad 3, .inl (cI, 40, .inl mf)), (ad 4, .inl (cI, 40, .inl wt)), (ad 9, .inr (2, [.int nd, .int (nI lc), .long bc, .int bv, .ref (ad 10), .ref (ad 11), .ref (ad 12), .ref (ad 1), .ref (ad 5), .ref (ad 13), .ref (ad 14), .int (nI wc)])), (ad 10, .inl (cI, lz, .inl lh)), (ad 11, .inl (cI, lz, .inl lw)), (ad 12, .inl (cL, lz, .inr (.inl lb))), (ad 13, .inl (cI, 11, .inl wh)), (ad 14, .inl (cI, 11, .inl wv))] s.heap := hP0.sub [0, 1, 2, 3, 4, 5, 6, 7, 8, 9, 10] rfl
  have hS : va_S xN s.heap s.heap [] := va_S.rf
  have hl := lv_entry [.ref (ad 0), .int v] (n := 2) (Nat.le_of_ble_eq_true rfl)
  rw [lg_entry_eq]
  generalize (lg_sl [.ref (ad 0), .int v] ++ List.replicate (2 - (lg_sl [.ref (ad 0), .int v]).length) Slot.unset).toArray = ls at hl ⊢
  have hl : lv_has ls 2 [(0, .ref (ad 0)), (1, .int v)] := hl
  have hF := Eq.refl (f_value nv bc bv v)
  conv at hF => rhs; unfold f_value
  refine lv_iload_n hx hb dX3_value_0 rfl (lv_at hl 1 rfl) ?_
  refine lv_if_lt (tgt := 25) hx hb dX3_value_1 (by decide) (fun h1 => ?_) (fun h1 => ?_)
  · have hF := hF.trans (if_pos h1)
    refine lv_iconst (v := (-1)) hx hb dX3_value_25 (by decide) ?_
    exact W.iret (v := (-1)) hx hb hr (fun t ht hW => ⟨⟨_, (), rfl, hF, trivial⟩, hS.F ht⟩) hS.2.2 dX3_value_26
  · have hF := hF.trans (if_neg h1)
    refine lv_iload_n hx hb dX3_value_4 rfl (lv_at hl 1 rfl) ?_
    refine lv_aload_n hx hb dX3_value_5 rfl (lv_at hl 0 rfl) ?_
    have hR := xP0 hPr xnN hS
    refine va_get (D := (dC, dI)) (ci := 3) (v := .ref (ad 1)) (C := RX3) (T := TX3) (N := 3) hx hb hts (xcons inX3) hown hK hR 0 rfl rfl 0 (by decide) hw0 (fun _ h9 => h9) rfl dX3_value_6 ?_
    refine va_get (D := (dC, dI)) (ci := 1) (v := .int (nI nv)) (C := RX1) (T := TX1) (N := 6) hx hb hts (xcons inX1) hown hK hR 1 rfl rfl 0 (by decide) hw1 (fun _ h9 => h9) rfl dX3_value_9 ?_
    refine lv_icmp_ge (tgt := 25) hx hb dX3_value_12 (by decide) (fun h2 => ?_) (fun h2 => ?_)
    · have hF := hF.trans (if_pos h2)
      refine lv_iconst (v := (-1)) hx hb dX3_value_25 (by decide) ?_
      exact W.iret (v := (-1)) hx hb hr (fun t ht hW => ⟨⟨_, (), rfl, hF, trivial⟩, hS.F ht⟩) hS.2.2 dX3_value_26
    · have hF := hF.trans (if_neg h2)
      refine lv_aload_n hx hb dX3_value_15 rfl (lv_at hl 0 rfl) ?_
      refine va_get (D := (dC, dI)) (ci := 3) (v := .ref (ad 9)) (C := RX3) (T := TX3) (N := 3) hx hb hts (xcons inX3) hown hK hR 0 rfl rfl 2 (by decide) hw2 (fun _ h9 => h9) rfl dX3_value_16 ?_
      refine xro_i (va_runV (As := []) (rest := []) ⟨hx, hb, hml, hown, hts⟩ (c_hasBest l dC dI cI cL cZ ad hinj lz nd lc bc bv lh lw lb wh wv wc) (xcwV 0 hts wd_243 wd_38 wd_329 wd_241 wd_242 rfl rfl (by decide +kernel) ⟨Nat.le_of_ble_eq_true rfl, Nat.le_of_ble_eq_true rfl⟩) (xpreV (va_recv hK hR rfl (q0 := 5) rfl) (hR.sub [5, 6, 7, 8, 9, 10] rfl) hK) rfl rfl hl.1 rfl (lv_room (Nat.le_of_ble_eq_true rfl)) dX3_value_19 ⟨Nat.le_of_ble_eq_true rfl, Nat.le_of_ble_eq_true rfl⟩) hS (fun H locs hk hS => ?_)
      refine lv_if_ne (tgt := 27) hx hb dX3_value_22 (by decide) (fun h3 => ?_) (fun h3 => ?_)
      · have hF := hF.trans (if_neg h3)
        refine lv_aload_n hx hb dX3_value_27 rfl (lv_at hl 0 rfl) ?_
        have hR := xP0 hPr xnN hS
        refine va_get (D := (dC, dI)) (ci := 3) (v := .ref (ad 9)) (C := RX3) (T := TX3) (N := 3) hx hb hts (xcons inX3) hown hK hR 0 rfl rfl 2 (by decide) hw2 (fun _ h9 => h9) rfl dX3_value_28 ?_
        refine va_get (D := (dC, dI)) (ci := 2) (v := .int bv) (C := RX2) (T := TX2) (N := 12) hx hb hts (xcons inX2) hown hK hR 5 rfl rfl 3 (by decide) hw3 (fun _ h9 => h9) rfl dX3_value_31 ?_
        refine lv_iload_n hx hb dX3_value_34 rfl (lv_at hl 1 rfl) ?_
        refine lv_ishr hx hb dX3_value_35 ?_
        refine lv_iconst (v := 1) hx hb dX3_value_36 (by decide) ?_
        refine lv_iand hx hb dX3_value_37 ?_
        exact W.iret (v := ((bv >>> (v &&& 31)) &&& 1)) hx hb hr (fun t ht hW => ⟨⟨_, (), rfl, hF, trivial⟩, hS.F ht⟩) hS.2.2 dX3_value_38
      · have hF := hF.trans (if_pos h3)
        refine lv_iconst (v := (-1)) hx hb dX3_value_25 (by decide) ?_
        exact W.iret (v := (-1)) hx hb hr (fun t ht hW => ⟨⟨_, (), rfl, hF, trivial⟩, hS.F ht⟩) hS.2.2 dX3_value_26
set_option maxHeartbeats 4000000 in
set_option maxRecDepth 100000 in
theorem c_log (l : Launch) (dC : Nat → ClassId) (dI : Nat → Nat → Nat) (cI cL cZ : ClassId) (ad : Nat → Nat) (hinj : xI ad 15) (lz : Nat) (nd : Int32) (lc : Nat) (bc : Int64) (bv : Int32) (lh lw : Nat → Int32) (lb : Nat → Int64) (wh wv : Nat → Int32) (wc : Nat) (hlz : lz ≤ 512) (hlc : lc ≤ lz) (k what : Int32) : Met l yX3_log wsX3_log ({ frames := 1, cells := 0, slots := 0, locals := 21 }) (va_Pc [.ref (ad 0), .int k, .int what] (fun U => va_P (dC, dI) vwCl [(ad 0, .inr (3, [.ref (ad 1), .ref (ad 5), .ref (ad 9)])), (ad 9, .inr (2, [.int nd, .int (nI lc), .long bc, .int bv, .ref (ad 10), .ref (ad 11), .ref (ad 12), .ref (ad 1), .ref (ad 5), .ref (ad 13), .ref (ad 14), .int (nI wc)])), (ad 10, .inl (cI, lz, .inl lh)), (ad 11, .inl (cI, lz, .inl lw)), (ad 12, .inl (cL, lz, .inr (.inl lb))), (ad 13, .inl (cI, 11, .inl wh)), (ad 14, .inl (cI, 11, .inl wv))] U.heap ∧ va_K (dC, dI) vwCl [(cI, .int), (cL, .long), (cZ, .boolean)] U)) (va_Qi (fun r (_ : Unit) => f_log lc lh lw k what = r) (fun _ _ => True) xN) 0 0 xN := by
  refine Met.ofW (cc := cX3_log) (maxL := 3) (ret := (some .int)) (by decide) rfl ?_
  intro p e s m args below meth c s₁ B hml hvv
  obtain ⟨rfl, hP0, hK⟩ := hvv
  have hx := B.exec
  have hb := B.bytes
  have hr := B.returns
  have hts := atoms_spec (ws := wsX3_log) B.pre
  have hown : s.vm.findClass RX3 = some m.cls := findClass_of_methodNamed B.named
  have hlocks := B.notSynchronized
  have hw0 : (.fieldLink RX3 41 "WeightedClauses" "search" "LWeightedClauses$Search;" : Cond).before _ s = true := hts _ (List.mem_cons_of_mem _ wd_180)
  have hw1 : (.fieldLink RX3 130 "WeightedClauses$Search" "logHave" "[I" : Cond).before _ s = true := hts _ (List.mem_cons_of_mem _ wd_143)
  have hw2 : (.fieldLink RX3 134 "WeightedClauses$Search" "logValues" "[I" : Cond).before _ s = true := hts _ (List.mem_cons_of_mem _ wd_145)
  have hPr : va_P (dC, dI) vwCl [(ad 0, .inr (3, [.ref (ad 1), .ref (ad 5), .ref (ad 9)])), (ad 9, .inr (2, [.int nd, .int (nI lc), .long bc, .int bv, .ref (ad 10), .ref (ad 11), .ref (ad 12), .ref (ad 1), .ref (ad 5), .ref (ad 13), .ref (ad 14), .int (nI wc)])), (ad 10, .inl (cI, lz, .inl lh)), (ad 11, .inl (cI, lz, .inl lw)), (ad 12, .inl (cL, lz, .inr (.inl lb))), (ad 13, .inl (cI, 11, .inl wh)), (ad 14, .inl (cI, 11, .inl wv))] s.heap := hP0.sub [0, 1, 2, 3, 4, 5, 6] rfl
  have hS : va_S xN s.heap s.heap [] := va_S.rf
  have hl := lv_entry [.ref (ad 0), .int k, .int what] (n := 3) (Nat.le_of_ble_eq_true rfl)
  rw [lg_entry_eq]
  generalize (lg_sl [.ref (ad 0), .int k, .int what] ++ List.replicate (3 - (lg_sl [.ref (ad 0), .int k, .int what]).length) Slot.unset).toArray = ls at hl ⊢
  have hl : lv_has ls 3 [(0, .ref (ad 0)), (1, .int k), (2, .int what)] := hl
  have hF := Eq.refl (f_log lc lh lw k what)
  conv at hF => rhs; unfold f_log
  refine lv_aload_n hx hb dX3_log_0 rfl (lv_at hl 0 rfl) ?_
  have hR := xP0 hPr xnN hS
  refine va_get (D := (dC, dI)) (ci := 3) (v := .ref (ad 9)) (C := RX3) (T := TX3) (N := 3) hx hb hts (xcons inX3) hown hK hR 0 rfl rfl 2 (by decide) hw0 (fun _ h9 => h9) rfl dX3_log_1 ?_
  refine lv_iload_n hx hb dX3_log_4 rfl (lv_at hl 1 rfl) ?_
  refine xro_i (va_runV (As := [.int k]) (rest := []) ⟨hx, hb, hml, hown, hts⟩ (c_isLogged l dC dI cI cL cZ ad hinj lz nd lc bc bv lh lw lb wh wv wc k) (xcwV 1 hts wd_350 wd_38 wd_347 wd_348 wd_349 rfl rfl (by decide +kernel) ⟨Nat.le_of_ble_eq_true rfl, Nat.le_of_ble_eq_true rfl⟩) (xpreV (va_recv hK hR rfl (q0 := 1) rfl) (hR.sub [1, 2, 3, 4, 5, 6] rfl) hK) rfl rfl hl.1 rfl (lv_room (Nat.le_of_ble_eq_true rfl)) dX3_log_5 ⟨Nat.le_of_ble_eq_true rfl, Nat.le_of_ble_eq_true rfl⟩) hS (fun H locs hk hS => ?_)
  refine lv_if_ne (tgt := 13) hx hb dX3_log_8 (by decide) (fun h1 => ?_) (fun h1 => ?_)
  · have hF := hF.trans (if_neg h1)
    have hil := isLogged_ok h1
    refine lv_iload_n hx hb dX3_log_13 rfl (lv_at hl 2 rfl) ?_
    by_cases h2 : what = 0
    · have hF := hF.trans (if_pos h2)
      refine lv_lookup (off := 26) (tgt := 40) hx hb dX3_log_14 (by decide) (by subst h2; rfl) (by decide) ?_
      refine lv_aload_n hx hb dX3_log_40 rfl (lv_at hl 0 rfl) ?_
      have hR := xP0 hPr xnN hS
      refine va_get (D := (dC, dI)) (ci := 3) (v := .ref (ad 9)) (C := RX3) (T := TX3) (N := 3) hx hb hts (xcons inX3) hown hK hR 0 rfl rfl 2 (by decide) hw0 (fun _ h9 => h9) rfl dX3_log_41 ?_
      refine va_get (D := (dC, dI)) (ci := 2) (v := .ref (ad 10)) (C := RX2) (T := TX2) (N := 12) hx hb hts (xcons inX2) hown hK hR 1 rfl rfl 4 (by decide) hw1 (fun _ h9 => h9) rfl dX3_log_44 ?_
      refine lv_iload_n hx hb dX3_log_47 rfl (lv_at hl 1 rfl) ?_
      refine va_iald hx hb hK hR 2 0 rfl rfl (xin hil.1 hil.2 hlc (by omega)) dX3_log_48 ?_
      exact W.iret (v := (lh k.toNatClampNeg)) hx hb hr (fun t ht hW => ⟨⟨_, (), rfl, hF, trivial⟩, hS.F ht⟩) hS.2.2 dX3_log_49
    · have hF := hF.trans (if_neg h2)
      by_cases h3 : what = 1
      · have hF := hF.trans (if_pos h3)
        refine lv_lookup (off := 36) (tgt := 50) hx hb dX3_log_14 (by decide) (by subst h3; rfl) (by decide) ?_
        refine lv_aload_n hx hb dX3_log_50 rfl (lv_at hl 0 rfl) ?_
        have hR := xP0 hPr xnN hS
        refine va_get (D := (dC, dI)) (ci := 3) (v := .ref (ad 9)) (C := RX3) (T := TX3) (N := 3) hx hb hts (xcons inX3) hown hK hR 0 rfl rfl 2 (by decide) hw0 (fun _ h9 => h9) rfl dX3_log_51 ?_
        refine va_get (D := (dC, dI)) (ci := 2) (v := .ref (ad 11)) (C := RX2) (T := TX2) (N := 12) hx hb hts (xcons inX2) hown hK hR 1 rfl rfl 5 (by decide) hw2 (fun _ h9 => h9) rfl dX3_log_54 ?_
        refine lv_iload_n hx hb dX3_log_57 rfl (lv_at hl 1 rfl) ?_
        refine va_iald hx hb hK hR 3 0 rfl rfl (xin hil.1 hil.2 hlc (by omega)) dX3_log_58 ?_
        exact W.iret (v := (lw k.toNatClampNeg)) hx hb hr (fun t ht hW => ⟨⟨_, (), rfl, hF, trivial⟩, hS.F ht⟩) hS.2.2 dX3_log_59
      · have hF := hF.trans (if_neg h3)
        refine lv_lookup (off := 46) (tgt := 60) hx hb dX3_log_14 (by decide) (((lv_osw h2 (by decide)).trans ((lv_osw h3 (by decide)).trans rfl))) (by decide) ?_
        refine lv_iconst (v := (-1)) hx hb dX3_log_60 (by decide) ?_
        exact W.iret (v := (-1)) hx hb hr (fun t ht hW => ⟨⟨_, (), rfl, hF, trivial⟩, hS.F ht⟩) hS.2.2 dX3_log_61
  · have hF := hF.trans (if_pos h1)
    refine lv_iconst (v := (-1)) hx hb dX3_log_11 (by decide) ?_
    exact W.iret (v := (-1)) hx hb hr (fun t ht hW => ⟨⟨_, (), rfl, hF, trivial⟩, hS.F ht⟩) hS.2.2 dX3_log_12
set_option maxHeartbeats 4000000 in
set_option maxRecDepth 100000 in
theorem c_best (l : Launch) (dC : Nat → ClassId) (dI : Nat → Nat → Nat) (cI cL cZ : ClassId) (ad : Nat → Nat) (hinj : xI ad 15) (lz : Nat) (nd : Int32) (lc : Nat) (bc : Int64) (bv : Int32) (lh lw : Nat → Int32) (lb : Nat → Int64) (wh wv : Nat → Int32) (wc : Nat) (hlz : lz ≤ 512) (hlc : lc ≤ lz) (k : Int32) : Met l yX3_best wsX3_best ({ frames := 1, cells := 0, slots := 0, locals := 21 }) (va_Pc [.ref (ad 0), .int k] (fun U => va_P (dC, dI) vwCl [(ad 0, .inr (3, [.ref (ad 1), .ref (ad 5), .ref (ad 9)])), (ad 9, .inr (2, [.int nd, .int (nI lc), .long bc, .int bv, .ref (ad 10), .ref (ad 11), .ref (ad 12), .ref (ad 1), .ref (ad 5), .ref (ad 13), .ref (ad 14), .int (nI wc)])), (ad 10, .inl (cI, lz, .inl lh)), (ad 11, .inl (cI, lz, .inl lw)), (ad 12, .inl (cL, lz, .inr (.inl lb))), (ad 13, .inl (cI, 11, .inl wh)), (ad 14, .inl (cI, 11, .inl wv))] U.heap ∧ va_K (dC, dI) vwCl [(cI, .int), (cL, .long), (cZ, .boolean)] U)) (va_Ql (fun r (_ : Unit) => f_best lc lb k = r) (fun _ _ => True) xN) 0 0 xN := by
  refine Met.ofW (cc := cX3_best) (maxL := 2) (ret := (some .long)) (by decide) rfl ?_
  intro p e s m args below meth c s₁ B hml hvv
  obtain ⟨rfl, hP0, hK⟩ := hvv
  have hx := B.exec
  have hb := B.bytes
  have hr := B.returns
  have hts := atoms_spec (ws := wsX3_best) B.pre
  have hown : s.vm.findClass RX3 = some m.cls := findClass_of_methodNamed B.named
  have hlocks := B.notSynchronized
  have hw0 : (.fieldLink RX3 41 "WeightedClauses" "search" "LWeightedClauses$Search;" : Cond).before _ s = true := hts _ (List.mem_cons_of_mem _ wd_180)
  have hw1 : (.constantLong RX3 141 (-1) : Cond).before _ s = true := hts _ (List.mem_cons_of_mem _ wd_355)
  have hw2 : (.fieldLink RX3 137 "WeightedClauses$Search" "logBest" "[J" : Cond).before _ s = true := hts _ (List.mem_cons_of_mem _ wd_147)
  have hPr : va_P (dC, dI) vwCl [(ad 0, .inr (3, [.ref (ad 1), .ref (ad 5), .ref (ad 9)])), (ad 9, .inr (2, [.int nd, .int (nI lc), .long bc, .int bv, .ref (ad 10), .ref (ad 11), .ref (ad 12), .ref (ad 1), .ref (ad 5), .ref (ad 13), .ref (ad 14), .int (nI wc)])), (ad 10, .inl (cI, lz, .inl lh)), (ad 11, .inl (cI, lz, .inl lw)), (ad 12, .inl (cL, lz, .inr (.inl lb))), (ad 13, .inl (cI, 11, .inl wh)), (ad 14, .inl (cI, 11, .inl wv))] s.heap := hP0.sub [0, 1, 2, 3, 4, 5, 6] rfl
  have hS : va_S xN s.heap s.heap [] := va_S.rf
  have hl := lv_entry [.ref (ad 0), .int k] (n := 2) (Nat.le_of_ble_eq_true rfl)
  rw [lg_entry_eq]
  generalize (lg_sl [.ref (ad 0), .int k] ++ List.replicate (2 - (lg_sl [.ref (ad 0), .int k]).length) Slot.unset).toArray = ls at hl ⊢
  have hl : lv_has ls 2 [(0, .ref (ad 0)), (1, .int k)] := hl
  have hF := Eq.refl (f_best lc lb k)
  conv at hF => rhs; unfold f_best
  refine lv_aload_n hx hb dX3_best_0 rfl (lv_at hl 0 rfl) ?_
  have hR := xP0 hPr xnN hS
  refine va_get (D := (dC, dI)) (ci := 3) (v := .ref (ad 9)) (C := RX3) (T := TX3) (N := 3) hx hb hts (xcons inX3) hown hK hR 0 rfl rfl 2 (by decide) hw0 (fun _ h9 => h9) rfl dX3_best_1 ?_
  refine lv_iload_n hx hb dX3_best_4 rfl (lv_at hl 1 rfl) ?_
  refine xro_i (va_runV (As := [.int k]) (rest := []) ⟨hx, hb, hml, hown, hts⟩ (c_isLogged l dC dI cI cL cZ ad hinj lz nd lc bc bv lh lw lb wh wv wc k) (xcwV 1 hts wd_350 wd_38 wd_347 wd_348 wd_349 rfl rfl (by decide +kernel) ⟨Nat.le_of_ble_eq_true rfl, Nat.le_of_ble_eq_true rfl⟩) (xpreV (va_recv hK hR rfl (q0 := 1) rfl) (hR.sub [1, 2, 3, 4, 5, 6] rfl) hK) rfl rfl hl.1 rfl (lv_room (Nat.le_of_ble_eq_true rfl)) dX3_best_5 ⟨Nat.le_of_ble_eq_true rfl, Nat.le_of_ble_eq_true rfl⟩) hS (fun H locs hk hS => ?_)
  refine lv_if_eq (tgt := 23) hx hb dX3_best_8 (by decide) (fun h1 => ?_) (fun h1 => ?_)
  · have hF := hF.trans (if_pos h1)
    refine lv_ldc2 hx hb hown hw1 dX3_best_23 ?_
    exact W.lret (v := (-1)) hx hb hr (fun t ht hW => ⟨⟨_, (), rfl, hF, trivial⟩, hS.F ht⟩) hS.2.2 dX3_best_26
  · have hF := hF.trans (if_neg h1)
    have hil := isLogged_ok h1
    refine lv_aload_n hx hb dX3_best_11 rfl (lv_at hl 0 rfl) ?_
    have hR := xP0 hPr xnN hS
    refine va_get (D := (dC, dI)) (ci := 3) (v := .ref (ad 9)) (C := RX3) (T := TX3) (N := 3) hx hb hts (xcons inX3) hown hK hR 0 rfl rfl 2 (by decide) hw0 (fun _ h9 => h9) rfl dX3_best_12 ?_
    refine va_get (D := (dC, dI)) (ci := 2) (v := .ref (ad 12)) (C := RX2) (T := TX2) (N := 12) hx hb hts (xcons inX2) hown hK hR 1 rfl rfl 6 (by decide) hw2 (fun _ h9 => h9) rfl dX3_best_15 ?_
    refine lv_iload_n hx hb dX3_best_18 rfl (lv_at hl 1 rfl) ?_
    refine va_lald hx hb hK hR 4 1 rfl rfl (xin hil.1 hil.2 hlc (by omega)) dX3_best_19 ?_
    refine lv_goto (tgt := 26) hx hb dX3_best_20 (by decide) ?_
    exact W.lret (v := (lb k.toNatClampNeg)) hx hb hr (fun t ht hW => ⟨⟨_, (), rfl, hF, trivial⟩, hS.F ht⟩) hS.2.2 dX3_best_26
set_option maxHeartbeats 4000000 in
set_option maxRecDepth 100000 in
theorem c_isState (l : Launch) (dC : Nat → ClassId) (dI : Nat → Nat → Nat) (cI cL cZ : ClassId) (ad : Nat → Nat) (hinj : xI ad 15) (nv : Nat) (av : Int32) (nc : Nat) (mt mf wt : Nat → Int32) (hv vl : Int32) : Met l yX3_isState wsX3_isState ({ frames := 0, cells := 0, slots := 0, locals := 0 }) (va_Pc [.ref (ad 0), .int hv, .int vl] (fun U => va_P (dC, dI) vwCl [(ad 0, .inr (3, [.ref (ad 1), .ref (ad 5), .ref (ad 9)])), (ad 1, .inr (1, [.int (nI nv), .int av, .int (nI nc), .ref (ad 2), .ref (ad 3), .ref (ad 4)])), (ad 2, .inl (cI, 40, .inl mt)), (ad 3, .inl (cI, 40, .inl mf)), (ad 4, .inl (cI, 40, .inl wt))] U.heap ∧ va_K (dC, dI) vwCl [(cI, .int), (cL, .long), (cZ, .boolean)] U)) (va_Qi (fun r (_ : Unit) => f_isState av hv vl = r) (fun _ _ => True) xN) 0 0 xN := by
  refine Met.ofW (cc := cX3_isState) (maxL := 3) (ret := (some .boolean)) (by decide) rfl ?_
  intro p e s m args below meth c s₁ B hml hvv
  obtain ⟨rfl, hP0, hK⟩ := hvv
  have hx := B.exec
  have hb := B.bytes
  have hr := B.returns
  have hts := atoms_spec (ws := wsX3_isState) B.pre
  have hown : s.vm.findClass RX3 = some m.cls := findClass_of_methodNamed B.named
  have hlocks := B.notSynchronized
  have hw0 : (.fieldLink RX3 23 "WeightedClauses" "formula" "LWeightedClauses$Formula;" : Cond).before _ s = true := hts _ (List.mem_cons_of_mem _ wd_178)
  have hw1 : (.fieldLink RX3 144 "WeightedClauses$Formula" "allVariables" "I" : Cond).before _ s = true := hts _ (List.mem_cons_of_mem _ wd_71)
  have hPr : va_P (dC, dI) vwCl [(ad 0, .inr (3, [.ref (ad 1), .ref (ad 5), .ref (ad 9)])), (ad 1, .inr (1, [.int (nI nv), .int av, .int (nI nc), .ref (ad 2), .ref (ad 3), .ref (ad 4)])), (ad 2, .inl (cI, 40, .inl mt)), (ad 3, .inl (cI, 40, .inl mf)), (ad 4, .inl (cI, 40, .inl wt))] s.heap := hP0.sub [0, 1, 2, 3, 4] rfl
  have hS : va_S xN s.heap s.heap [] := va_S.rf
  have hl := lv_entry [.ref (ad 0), .int hv, .int vl] (n := 3) (Nat.le_of_ble_eq_true rfl)
  rw [lg_entry_eq]
  generalize (lg_sl [.ref (ad 0), .int hv, .int vl] ++ List.replicate (3 - (lg_sl [.ref (ad 0), .int hv, .int vl]).length) Slot.unset).toArray = ls at hl ⊢
  have hl : lv_has ls 3 [(0, .ref (ad 0)), (1, .int hv), (2, .int vl)] := hl
  have hF := Eq.refl (f_isState av hv vl)
  conv at hF => rhs; unfold f_isState
  refine lv_iload_n hx hb dX3_isState_0 rfl (lv_at hl 1 rfl) ?_
  refine lv_aload_n hx hb dX3_isState_1 rfl (lv_at hl 0 rfl) ?_
  have hR := xP0 hPr xnN hS
  refine va_get (D := (dC, dI)) (ci := 3) (v := .ref (ad 1)) (C := RX3) (T := TX3) (N := 3) hx hb hts (xcons inX3) hown hK hR 0 rfl rfl 0 (by decide) hw0 (fun _ h9 => h9) rfl dX3_isState_2 ?_
  refine va_get (D := (dC, dI)) (ci := 1) (v := .int av) (C := RX1) (T := TX1) (N := 6) hx hb hts (xcons inX1) hown hK hR 1 rfl rfl 1 (by decide) hw1 (fun _ h9 => h9) rfl dX3_isState_5 ?_
  refine lv_iconst (v := (-1)) hx hb dX3_isState_8 (by decide) ?_
  refine lv_ixor hx hb dX3_isState_9 ?_
  refine lv_iand hx hb dX3_isState_10 ?_
  refine lv_if_ne (tgt := 26) hx hb dX3_isState_11 (by decide) (fun h1 => ?_) (fun h1 => ?_)
  · have hF := hF.trans (if_neg h1)
    refine lv_iconst (v := 0) hx hb dX3_isState_26 (by decide) ?_
    exact W.zret (v := 0) hx hb hr rfl (fun t ht hW => ⟨⟨_, (), rfl, hF, trivial⟩, hS.F ht⟩) hS.2.2 dX3_isState_27
  · have hF := hF.trans (if_pos h1)
    refine lv_iload_n hx hb dX3_isState_14 rfl (lv_at hl 2 rfl) ?_
    refine lv_iload_n hx hb dX3_isState_15 rfl (lv_at hl 1 rfl) ?_
    refine lv_iconst (v := (-1)) hx hb dX3_isState_16 (by decide) ?_
    refine lv_ixor hx hb dX3_isState_17 ?_
    refine lv_iand hx hb dX3_isState_18 ?_
    refine lv_if_ne (tgt := 26) hx hb dX3_isState_19 (by decide) (fun h2 => ?_) (fun h2 => ?_)
    · have hF := hF.trans (if_neg h2)
      refine lv_iconst (v := 0) hx hb dX3_isState_26 (by decide) ?_
      exact W.zret (v := 0) hx hb hr rfl (fun t ht hW => ⟨⟨_, (), rfl, hF, trivial⟩, hS.F ht⟩) hS.2.2 dX3_isState_27
    · have hF := hF.trans (if_pos h2)
      refine lv_iconst (v := 1) hx hb dX3_isState_22 (by decide) ?_
      refine lv_goto (tgt := 27) hx hb dX3_isState_23 (by decide) ?_
      exact W.zret (v := 1) hx hb hr rfl (fun t ht hW => ⟨⟨_, (), rfl, hF, trivial⟩, hS.F ht⟩) hS.2.2 dX3_isState_27
set_option maxHeartbeats 4000000 in
set_option maxRecDepth 100000 in
theorem c_isLiteralOrAbsent (l : Launch) (dC : Nat → ClassId) (dI : Nat → Nat → Nat) (cI cL cZ : ClassId) (ad : Nat → Nat) (hinj : xI ad 15) (nv : Nat) (av : Int32) (nc : Nat) (mt mf wt : Nat → Int32) (x : Int32) : Met l yX3_isLiteralOrAbsent wsX3_isLiteralOrAbsent ({ frames := 0, cells := 0, slots := 0, locals := 0 }) (va_Pc [.ref (ad 0), .int x] (fun U => va_P (dC, dI) vwCl [(ad 0, .inr (3, [.ref (ad 1), .ref (ad 5), .ref (ad 9)])), (ad 1, .inr (1, [.int (nI nv), .int av, .int (nI nc), .ref (ad 2), .ref (ad 3), .ref (ad 4)])), (ad 2, .inl (cI, 40, .inl mt)), (ad 3, .inl (cI, 40, .inl mf)), (ad 4, .inl (cI, 40, .inl wt))] U.heap ∧ va_K (dC, dI) vwCl [(cI, .int), (cL, .long), (cZ, .boolean)] U)) (va_Qi (fun r (_ : Unit) => f_isLiteralOrAbsent nv x = r) (fun _ _ => True) xN) 0 0 xN := by
  refine Met.ofW (cc := cX3_isLiteralOrAbsent) (maxL := 2) (ret := (some .boolean)) (by decide) rfl ?_
  intro p e s m args below meth c s₁ B hml hvv
  obtain ⟨rfl, hP0, hK⟩ := hvv
  have hx := B.exec
  have hb := B.bytes
  have hr := B.returns
  have hts := atoms_spec (ws := wsX3_isLiteralOrAbsent) B.pre
  have hown : s.vm.findClass RX3 = some m.cls := findClass_of_methodNamed B.named
  have hlocks := B.notSynchronized
  have hw0 : (.fieldLink RX3 23 "WeightedClauses" "formula" "LWeightedClauses$Formula;" : Cond).before _ s = true := hts _ (List.mem_cons_of_mem _ wd_178)
  have hw1 : (.fieldLink RX3 45 "WeightedClauses$Formula" "variableCount" "I" : Cond).before _ s = true := hts _ (List.mem_cons_of_mem _ wd_68)
  have hPr : va_P (dC, dI) vwCl [(ad 0, .inr (3, [.ref (ad 1), .ref (ad 5), .ref (ad 9)])), (ad 1, .inr (1, [.int (nI nv), .int av, .int (nI nc), .ref (ad 2), .ref (ad 3), .ref (ad 4)])), (ad 2, .inl (cI, 40, .inl mt)), (ad 3, .inl (cI, 40, .inl mf)), (ad 4, .inl (cI, 40, .inl wt))] s.heap := hP0.sub [0, 1, 2, 3, 4] rfl
  have hS : va_S xN s.heap s.heap [] := va_S.rf
  have hl := lv_entry [.ref (ad 0), .int x] (n := 2) (Nat.le_of_ble_eq_true rfl)
  rw [lg_entry_eq]
  generalize (lg_sl [.ref (ad 0), .int x] ++ List.replicate (2 - (lg_sl [.ref (ad 0), .int x]).length) Slot.unset).toArray = ls at hl ⊢
  have hl : lv_has ls 2 [(0, .ref (ad 0)), (1, .int x)] := hl
  have hF := Eq.refl (f_isLiteralOrAbsent nv x)
  conv at hF => rhs; unfold f_isLiteralOrAbsent
  refine lv_iload_n hx hb dX3_isLiteralOrAbsent_0 rfl (lv_at hl 1 rfl) ?_
  refine lv_iconst (v := (-1)) hx hb dX3_isLiteralOrAbsent_1 (by decide) ?_
  refine lv_icmp_lt (tgt := 22) hx hb dX3_isLiteralOrAbsent_2 (by decide) (fun h1 => ?_) (fun h1 => ?_)
  · have hF := hF.trans (if_pos h1)
    refine lv_iconst (v := 0) hx hb dX3_isLiteralOrAbsent_22 (by decide) ?_
    exact W.zret (v := 0) hx hb hr rfl (fun t ht hW => ⟨⟨_, (), rfl, hF, trivial⟩, hS.F ht⟩) hS.2.2 dX3_isLiteralOrAbsent_23
  · have hF := hF.trans (if_neg h1)
    refine lv_iload_n hx hb dX3_isLiteralOrAbsent_5 rfl (lv_at hl 1 rfl) ?_
    refine lv_iconst (v := 2) hx hb dX3_isLiteralOrAbsent_6 (by decide) ?_
    refine lv_aload_n hx hb dX3_isLiteralOrAbsent_7 rfl (lv_at hl 0 rfl) ?_
    have hR := xP0 hPr xnN hS
    refine va_get (D := (dC, dI)) (ci := 3) (v := .ref (ad 1)) (C := RX3) (T := TX3) (N := 3) hx hb hts (xcons inX3) hown hK hR 0 rfl rfl 0 (by decide) hw0 (fun _ h9 => h9) rfl dX3_isLiteralOrAbsent_8 ?_
    refine va_get (D := (dC, dI)) (ci := 1) (v := .int (nI nv)) (C := RX1) (T := TX1) (N := 6) hx hb hts (xcons inX1) hown hK hR 1 rfl rfl 0 (by decide) hw1 (fun _ h9 => h9) rfl dX3_isLiteralOrAbsent_11 ?_
    refine lv_imul hx hb dX3_isLiteralOrAbsent_14 ?_
    refine lv_icmp_ge (tgt := 22) hx hb dX3_isLiteralOrAbsent_15 (by decide) (fun h2 => ?_) (fun h2 => ?_)
    · have hF := hF.trans (if_pos h2)
      refine lv_iconst (v := 0) hx hb dX3_isLiteralOrAbsent_22 (by decide) ?_
      exact W.zret (v := 0) hx hb hr rfl (fun t ht hW => ⟨⟨_, (), rfl, hF, trivial⟩, hS.F ht⟩) hS.2.2 dX3_isLiteralOrAbsent_23
    · have hF := hF.trans (if_neg h2)
      refine lv_iconst (v := 1) hx hb dX3_isLiteralOrAbsent_18 (by decide) ?_
      refine lv_goto (tgt := 23) hx hb dX3_isLiteralOrAbsent_19 (by decide) ?_
      exact W.zret (v := 1) hx hb hr rfl (fun t ht hW => ⟨⟨_, (), rfl, hF, trivial⟩, hS.F ht⟩) hS.2.2 dX3_isLiteralOrAbsent_23
