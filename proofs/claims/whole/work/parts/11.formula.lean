def f_variablesOf (mt mf : Nat → Int32) (i : Nat) : Int32 :=
  ((mt i) ||| (mf i))
def f_withoutValue (mt mf : Nat → Int32) (i : Nat) (hv : Int32) : Int32 :=
  (((mt i) ||| (mf i)) &&& (hv ^^^ (-1)))
def f_literalsSayingTrue (mt : Nat → Int32) (i : Nat) : Int32 :=
  (mt i)
def f_isTrue (mt mf : Nat → Int32) (i : Nat) (hv vl : Int32) : Int32 :=
  if ((mt i) &&& vl) = 0 then
    if (((mf i) &&& hv) &&& (vl ^^^ (-1))) = 0 then
      0
    else
      1
  else
    1
def f_isFalse (mt mf : Nat → Int32) (i : Nat) (hv vl : Int32) : Int32 :=
  if (((mt i) ||| (mf i)) &&& (hv ^^^ (-1))) = 0 then
    if (((mt i) ||| (mf i)) &&& vl) = (mf i) then
      1
    else
      0
  else
    0
set_option maxHeartbeats 4000000 in
set_option maxRecDepth 100000 in
theorem c_variablesOf (l : Launch) (dC : Nat → ClassId) (dI : Nat → Nat → Nat) (cI cL cZ : ClassId) (ad : Nat → Nat) (hinj : xI ad 15) (nv : Nat) (av : Int32) (nc : Nat) (mt mf wt : Nat → Int32) (i : Nat) (hi : i < 40) : Met l yX1_variablesOf wsX1_variablesOf ({ frames := 0, cells := 0, slots := 0, locals := 0 }) (va_Pc [.ref (ad 1), .int (nI i)] (fun U => va_P (dC, dI) vwCl [(ad 1, .inr (1, [.int (nI nv), .int av, .int (nI nc), .ref (ad 2), .ref (ad 3), .ref (ad 4)])), (ad 2, .inl (cI, 40, .inl mt)), (ad 3, .inl (cI, 40, .inl mf)), (ad 4, .inl (cI, 40, .inl wt))] U.heap ∧ va_K (dC, dI) vwCl [(cI, .int), (cL, .long), (cZ, .boolean)] U)) (va_Qi (fun r (_ : Unit) => f_variablesOf mt mf i = r) (fun _ _ => True) xN) 0 0 xN := by
  refine Met.ofW (cc := cX1_variablesOf) (maxL := 2) (ret := (some .int)) (by decide) rfl ?_
  intro p e s m args below meth c s₁ B hml hvv
  obtain ⟨rfl, hP0, hK⟩ := hvv
  have hx := B.exec
  have hb := B.bytes
  have hr := B.returns
  have hts := atoms_spec (ws := wsX1_variablesOf) B.pre
  have hown : s.vm.findClass RX1 = some m.cls := findClass_of_methodNamed B.named
  have hlocks := B.notSynchronized
  have hw0 : (.fieldLink RX1 9 "WeightedClauses$Formula" "makesTrue" "[I" : Cond).before _ s = true := hts _ (List.mem_cons_of_mem _ wd_75)
  have hw1 : (.fieldLink RX1 15 "WeightedClauses$Formula" "makesFalse" "[I" : Cond).before _ s = true := hts _ (List.mem_cons_of_mem _ wd_76)
  have hPr : va_P (dC, dI) vwCl [(ad 1, .inr (1, [.int (nI nv), .int av, .int (nI nc), .ref (ad 2), .ref (ad 3), .ref (ad 4)])), (ad 2, .inl (cI, 40, .inl mt)), (ad 3, .inl (cI, 40, .inl mf)), (ad 4, .inl (cI, 40, .inl wt))] s.heap := hP0.sub [0, 1, 2, 3] rfl
  have hS : va_S xN s.heap s.heap [] := va_S.rf
  have hl := lv_entry [.ref (ad 1), .int (nI i)] (n := 2) (Nat.le_of_ble_eq_true rfl)
  rw [lg_entry_eq]
  generalize (lg_sl [.ref (ad 1), .int (nI i)] ++ List.replicate (2 - (lg_sl [.ref (ad 1), .int (nI i)]).length) Slot.unset).toArray = ls at hl ⊢
  have hl : lv_has ls 2 [(0, .ref (ad 1)), (1, .int (nI i))] := hl
  have hF := Eq.refl (f_variablesOf mt mf i)
  conv at hF => rhs; unfold f_variablesOf
  refine lv_aload_n hx hb dX1_variablesOf_0 rfl (lv_at hl 0 rfl) ?_
  have hR := xP0 hPr xnN hS
  refine va_get (D := (dC, dI)) (ci := 1) (v := .ref (ad 2)) (C := RX1) (T := TX1) (N := 6) hx hb hts (xcons inX1) hown hK hR 0 rfl rfl 3 (by decide) hw0 (fun _ h9 => h9) rfl dX1_variablesOf_1 ?_
  refine lv_iload_n hx hb dX1_variablesOf_4 rfl (lv_at hl 1 rfl) ?_
  refine xr_iald hx hb hK hR 1 0 rfl rfl i (by omega) (by omega) dX1_variablesOf_5 ?_
  refine lv_aload_n hx hb dX1_variablesOf_6 rfl (lv_at hl 0 rfl) ?_
  refine va_get (D := (dC, dI)) (ci := 1) (v := .ref (ad 3)) (C := RX1) (T := TX1) (N := 6) hx hb hts (xcons inX1) hown hK hR 0 rfl rfl 4 (by decide) hw1 (fun _ h9 => h9) rfl dX1_variablesOf_7 ?_
  refine lv_iload_n hx hb dX1_variablesOf_10 rfl (lv_at hl 1 rfl) ?_
  refine xr_iald hx hb hK hR 2 0 rfl rfl i (by omega) (by omega) dX1_variablesOf_11 ?_
  refine lv_ior hx hb dX1_variablesOf_12 ?_
  exact W.iret (v := ((mt i) ||| (mf i))) hx hb hr (fun t ht hW => ⟨⟨_, (), rfl, hF, trivial⟩, hS.F ht⟩) hS.2.2 dX1_variablesOf_13
set_option maxHeartbeats 4000000 in
set_option maxRecDepth 100000 in
theorem c_withoutValue (l : Launch) (dC : Nat → ClassId) (dI : Nat → Nat → Nat) (cI cL cZ : ClassId) (ad : Nat → Nat) (hinj : xI ad 15) (nv : Nat) (av : Int32) (nc : Nat) (mt mf wt : Nat → Int32) (i : Nat) (hi : i < 40) (hv : Int32) : Met l yX1_withoutValue wsX1_withoutValue ({ frames := 0, cells := 0, slots := 0, locals := 0 }) (va_Pc [.ref (ad 1), .int (nI i), .int hv] (fun U => va_P (dC, dI) vwCl [(ad 1, .inr (1, [.int (nI nv), .int av, .int (nI nc), .ref (ad 2), .ref (ad 3), .ref (ad 4)])), (ad 2, .inl (cI, 40, .inl mt)), (ad 3, .inl (cI, 40, .inl mf)), (ad 4, .inl (cI, 40, .inl wt))] U.heap ∧ va_K (dC, dI) vwCl [(cI, .int), (cL, .long), (cZ, .boolean)] U)) (va_Qi (fun r (_ : Unit) => f_withoutValue mt mf i hv = r) (fun _ _ => True) xN) 0 0 xN := by
  refine Met.ofW (cc := cX1_withoutValue) (maxL := 3) (ret := (some .int)) (by decide) rfl ?_
  intro p e s m args below meth c s₁ B hml hvv
  obtain ⟨rfl, hP0, hK⟩ := hvv
  have hx := B.exec
  have hb := B.bytes
  have hr := B.returns
  have hts := atoms_spec (ws := wsX1_withoutValue) B.pre
  have hown : s.vm.findClass RX1 = some m.cls := findClass_of_methodNamed B.named
  have hlocks := B.notSynchronized
  have hw0 : (.fieldLink RX1 9 "WeightedClauses$Formula" "makesTrue" "[I" : Cond).before _ s = true := hts _ (List.mem_cons_of_mem _ wd_75)
  have hw1 : (.fieldLink RX1 15 "WeightedClauses$Formula" "makesFalse" "[I" : Cond).before _ s = true := hts _ (List.mem_cons_of_mem _ wd_76)
  have hPr : va_P (dC, dI) vwCl [(ad 1, .inr (1, [.int (nI nv), .int av, .int (nI nc), .ref (ad 2), .ref (ad 3), .ref (ad 4)])), (ad 2, .inl (cI, 40, .inl mt)), (ad 3, .inl (cI, 40, .inl mf)), (ad 4, .inl (cI, 40, .inl wt))] s.heap := hP0.sub [0, 1, 2, 3] rfl
  have hS : va_S xN s.heap s.heap [] := va_S.rf
  have hl := lv_entry [.ref (ad 1), .int (nI i), .int hv] (n := 3) (Nat.le_of_ble_eq_true rfl)
  rw [lg_entry_eq]
  generalize (lg_sl [.ref (ad 1), .int (nI i), .int hv] ++ List.replicate (3 - (lg_sl [.ref (ad 1), .int (nI i), .int hv]).length) Slot.unset).toArray = ls at hl ⊢
  have hl : lv_has ls 3 [(0, .ref (ad 1)), (1, .int (nI i)), (2, .int hv)] := hl
  have hF := Eq.refl (f_withoutValue mt mf i hv)
  conv at hF => rhs; unfold f_withoutValue
  refine lv_aload_n hx hb dX1_withoutValue_0 rfl (lv_at hl 0 rfl) ?_
  have hR := xP0 hPr xnN hS
  refine va_get (D := (dC, dI)) (ci := 1) (v := .ref (ad 2)) (C := RX1) (T := TX1) (N := 6) hx hb hts (xcons inX1) hown hK hR 0 rfl rfl 3 (by decide) hw0 (fun _ h9 => h9) rfl dX1_withoutValue_1 ?_
  refine lv_iload_n hx hb dX1_withoutValue_4 rfl (lv_at hl 1 rfl) ?_
  refine xr_iald hx hb hK hR 1 0 rfl rfl i (by omega) (by omega) dX1_withoutValue_5 ?_
  refine lv_aload_n hx hb dX1_withoutValue_6 rfl (lv_at hl 0 rfl) ?_
  refine va_get (D := (dC, dI)) (ci := 1) (v := .ref (ad 3)) (C := RX1) (T := TX1) (N := 6) hx hb hts (xcons inX1) hown hK hR 0 rfl rfl 4 (by decide) hw1 (fun _ h9 => h9) rfl dX1_withoutValue_7 ?_
  refine lv_iload_n hx hb dX1_withoutValue_10 rfl (lv_at hl 1 rfl) ?_
  refine xr_iald hx hb hK hR 2 0 rfl rfl i (by omega) (by omega) dX1_withoutValue_11 ?_
  refine lv_ior hx hb dX1_withoutValue_12 ?_
  refine lv_iload_n hx hb dX1_withoutValue_13 rfl (lv_at hl 2 rfl) ?_
  refine lv_iconst (v := (-1)) hx hb dX1_withoutValue_14 (by decide) ?_
  refine lv_ixor hx hb dX1_withoutValue_15 ?_
  refine lv_iand hx hb dX1_withoutValue_16 ?_
  exact W.iret (v := (((mt i) ||| (mf i)) &&& (hv ^^^ (-1)))) hx hb hr (fun t ht hW => ⟨⟨_, (), rfl, hF, trivial⟩, hS.F ht⟩) hS.2.2 dX1_withoutValue_17
set_option maxHeartbeats 4000000 in
set_option maxRecDepth 100000 in
theorem c_literalsSayingTrue (l : Launch) (dC : Nat → ClassId) (dI : Nat → Nat → Nat) (cI cL cZ : ClassId) (ad : Nat → Nat) (hinj : xI ad 15) (nv : Nat) (av : Int32) (nc : Nat) (mt mf wt : Nat → Int32) (i : Nat) (hi : i < 40) : Met l yX1_literalsSayingTrue wsX1_literalsSayingTrue ({ frames := 0, cells := 0, slots := 0, locals := 0 }) (va_Pc [.ref (ad 1), .int (nI i)] (fun U => va_P (dC, dI) vwCl [(ad 1, .inr (1, [.int (nI nv), .int av, .int (nI nc), .ref (ad 2), .ref (ad 3), .ref (ad 4)])), (ad 2, .inl (cI, 40, .inl mt)), (ad 3, .inl (cI, 40, .inl mf)), (ad 4, .inl (cI, 40, .inl wt))] U.heap ∧ va_K (dC, dI) vwCl [(cI, .int), (cL, .long), (cZ, .boolean)] U)) (va_Qi (fun r (_ : Unit) => f_literalsSayingTrue mt i = r) (fun _ _ => True) xN) 0 0 xN := by
  refine Met.ofW (cc := cX1_literalsSayingTrue) (maxL := 2) (ret := (some .int)) (by decide) rfl ?_
  intro p e s m args below meth c s₁ B hml hvv
  obtain ⟨rfl, hP0, hK⟩ := hvv
  have hx := B.exec
  have hb := B.bytes
  have hr := B.returns
  have hts := atoms_spec (ws := wsX1_literalsSayingTrue) B.pre
  have hown : s.vm.findClass RX1 = some m.cls := findClass_of_methodNamed B.named
  have hlocks := B.notSynchronized
  have hw0 : (.fieldLink RX1 9 "WeightedClauses$Formula" "makesTrue" "[I" : Cond).before _ s = true := hts _ (List.mem_cons_of_mem _ wd_75)
  have hPr : va_P (dC, dI) vwCl [(ad 1, .inr (1, [.int (nI nv), .int av, .int (nI nc), .ref (ad 2), .ref (ad 3), .ref (ad 4)])), (ad 2, .inl (cI, 40, .inl mt)), (ad 3, .inl (cI, 40, .inl mf)), (ad 4, .inl (cI, 40, .inl wt))] s.heap := hP0.sub [0, 1, 2, 3] rfl
  have hS : va_S xN s.heap s.heap [] := va_S.rf
  have hl := lv_entry [.ref (ad 1), .int (nI i)] (n := 2) (Nat.le_of_ble_eq_true rfl)
  rw [lg_entry_eq]
  generalize (lg_sl [.ref (ad 1), .int (nI i)] ++ List.replicate (2 - (lg_sl [.ref (ad 1), .int (nI i)]).length) Slot.unset).toArray = ls at hl ⊢
  have hl : lv_has ls 2 [(0, .ref (ad 1)), (1, .int (nI i))] := hl
  have hF := Eq.refl (f_literalsSayingTrue mt i)
  conv at hF => rhs; unfold f_literalsSayingTrue
  refine lv_aload_n hx hb dX1_literalsSayingTrue_0 rfl (lv_at hl 0 rfl) ?_
  have hR := xP0 hPr xnN hS
  refine va_get (D := (dC, dI)) (ci := 1) (v := .ref (ad 2)) (C := RX1) (T := TX1) (N := 6) hx hb hts (xcons inX1) hown hK hR 0 rfl rfl 3 (by decide) hw0 (fun _ h9 => h9) rfl dX1_literalsSayingTrue_1 ?_
  refine lv_iload_n hx hb dX1_literalsSayingTrue_4 rfl (lv_at hl 1 rfl) ?_
  refine xr_iald hx hb hK hR 1 0 rfl rfl i (by omega) (by omega) dX1_literalsSayingTrue_5 ?_
  exact W.iret (v := (mt i)) hx hb hr (fun t ht hW => ⟨⟨_, (), rfl, hF, trivial⟩, hS.F ht⟩) hS.2.2 dX1_literalsSayingTrue_6
set_option maxHeartbeats 4000000 in
set_option maxRecDepth 100000 in
theorem c_isTrue (l : Launch) (dC : Nat → ClassId) (dI : Nat → Nat → Nat) (cI cL cZ : ClassId) (ad : Nat → Nat) (hinj : xI ad 15) (nv : Nat) (av : Int32) (nc : Nat) (mt mf wt : Nat → Int32) (i : Nat) (hi : i < 40) (hv vl : Int32) : Met l yX1_isTrue wsX1_isTrue ({ frames := 0, cells := 0, slots := 0, locals := 0 }) (va_Pc [.ref (ad 1), .int (nI i), .int hv, .int vl] (fun U => va_P (dC, dI) vwCl [(ad 1, .inr (1, [.int (nI nv), .int av, .int (nI nc), .ref (ad 2), .ref (ad 3), .ref (ad 4)])), (ad 2, .inl (cI, 40, .inl mt)), (ad 3, .inl (cI, 40, .inl mf)), (ad 4, .inl (cI, 40, .inl wt))] U.heap ∧ va_K (dC, dI) vwCl [(cI, .int), (cL, .long), (cZ, .boolean)] U)) (va_Qi (fun r (_ : Unit) => f_isTrue mt mf i hv vl = r) (fun _ _ => True) xN) 0 0 xN := by
  refine Met.ofW (cc := cX1_isTrue) (maxL := 4) (ret := (some .boolean)) (by decide) rfl ?_
  intro p e s m args below meth c s₁ B hml hvv
  obtain ⟨rfl, hP0, hK⟩ := hvv
  have hx := B.exec
  have hb := B.bytes
  have hr := B.returns
  have hts := atoms_spec (ws := wsX1_isTrue) B.pre
  have hown : s.vm.findClass RX1 = some m.cls := findClass_of_methodNamed B.named
  have hlocks := B.notSynchronized
  have hw0 : (.fieldLink RX1 9 "WeightedClauses$Formula" "makesTrue" "[I" : Cond).before _ s = true := hts _ (List.mem_cons_of_mem _ wd_75)
  have hw1 : (.fieldLink RX1 15 "WeightedClauses$Formula" "makesFalse" "[I" : Cond).before _ s = true := hts _ (List.mem_cons_of_mem _ wd_76)
  have hPr : va_P (dC, dI) vwCl [(ad 1, .inr (1, [.int (nI nv), .int av, .int (nI nc), .ref (ad 2), .ref (ad 3), .ref (ad 4)])), (ad 2, .inl (cI, 40, .inl mt)), (ad 3, .inl (cI, 40, .inl mf)), (ad 4, .inl (cI, 40, .inl wt))] s.heap := hP0.sub [0, 1, 2, 3] rfl
  have hS : va_S xN s.heap s.heap [] := va_S.rf
  have hl := lv_entry [.ref (ad 1), .int (nI i), .int hv, .int vl] (n := 4) (Nat.le_of_ble_eq_true rfl)
  rw [lg_entry_eq]
  generalize (lg_sl [.ref (ad 1), .int (nI i), .int hv, .int vl] ++ List.replicate (4 - (lg_sl [.ref (ad 1), .int (nI i), .int hv, .int vl]).length) Slot.unset).toArray = ls at hl ⊢
  have hl : lv_has ls 4 [(0, .ref (ad 1)), (1, .int (nI i)), (2, .int hv), (3, .int vl)] := hl
  have hF := Eq.refl (f_isTrue mt mf i hv vl)
  conv at hF => rhs; unfold f_isTrue
  refine lv_aload_n hx hb dX1_isTrue_0 rfl (lv_at hl 0 rfl) ?_
  have hR := xP0 hPr xnN hS
  refine va_get (D := (dC, dI)) (ci := 1) (v := .ref (ad 2)) (C := RX1) (T := TX1) (N := 6) hx hb hts (xcons inX1) hown hK hR 0 rfl rfl 3 (by decide) hw0 (fun _ h9 => h9) rfl dX1_isTrue_1 ?_
  refine lv_iload_n hx hb dX1_isTrue_4 rfl (lv_at hl 1 rfl) ?_
  refine xr_iald hx hb hK hR 1 0 rfl rfl i (by omega) (by omega) dX1_isTrue_5 ?_
  refine lv_iload_n hx hb dX1_isTrue_6 rfl (lv_at hl 3 rfl) ?_
  refine lv_iand hx hb dX1_isTrue_7 ?_
  refine lv_if_ne (tgt := 26) hx hb dX1_isTrue_8 (by decide) (fun h1 => ?_) (fun h1 => ?_)
  · have hF := hF.trans (if_neg h1)
    refine lv_iconst (v := 1) hx hb dX1_isTrue_26 (by decide) ?_
    refine lv_goto (tgt := 31) hx hb dX1_isTrue_27 (by decide) ?_
    exact W.zret (v := 1) hx hb hr rfl (fun t ht hW => ⟨⟨_, (), rfl, hF, trivial⟩, hS.F ht⟩) hS.2.2 dX1_isTrue_31
  · have hF := hF.trans (if_pos h1)
    refine lv_aload_n hx hb dX1_isTrue_11 rfl (lv_at hl 0 rfl) ?_
    refine va_get (D := (dC, dI)) (ci := 1) (v := .ref (ad 3)) (C := RX1) (T := TX1) (N := 6) hx hb hts (xcons inX1) hown hK hR 0 rfl rfl 4 (by decide) hw1 (fun _ h9 => h9) rfl dX1_isTrue_12 ?_
    refine lv_iload_n hx hb dX1_isTrue_15 rfl (lv_at hl 1 rfl) ?_
    refine xr_iald hx hb hK hR 2 0 rfl rfl i (by omega) (by omega) dX1_isTrue_16 ?_
    refine lv_iload_n hx hb dX1_isTrue_17 rfl (lv_at hl 2 rfl) ?_
    refine lv_iand hx hb dX1_isTrue_18 ?_
    refine lv_iload_n hx hb dX1_isTrue_19 rfl (lv_at hl 3 rfl) ?_
    refine lv_iconst (v := (-1)) hx hb dX1_isTrue_20 (by decide) ?_
    refine lv_ixor hx hb dX1_isTrue_21 ?_
    refine lv_iand hx hb dX1_isTrue_22 ?_
    refine lv_if_eq (tgt := 30) hx hb dX1_isTrue_23 (by decide) (fun h2 => ?_) (fun h2 => ?_)
    · have hF := hF.trans (if_pos h2)
      refine lv_iconst (v := 0) hx hb dX1_isTrue_30 (by decide) ?_
      exact W.zret (v := 0) hx hb hr rfl (fun t ht hW => ⟨⟨_, (), rfl, hF, trivial⟩, hS.F ht⟩) hS.2.2 dX1_isTrue_31
    · have hF := hF.trans (if_neg h2)
      refine lv_iconst (v := 1) hx hb dX1_isTrue_26 (by decide) ?_
      refine lv_goto (tgt := 31) hx hb dX1_isTrue_27 (by decide) ?_
      exact W.zret (v := 1) hx hb hr rfl (fun t ht hW => ⟨⟨_, (), rfl, hF, trivial⟩, hS.F ht⟩) hS.2.2 dX1_isTrue_31
set_option maxHeartbeats 4000000 in
set_option maxRecDepth 100000 in
theorem c_isFalse (l : Launch) (dC : Nat → ClassId) (dI : Nat → Nat → Nat) (cI cL cZ : ClassId) (ad : Nat → Nat) (hinj : xI ad 15) (nv : Nat) (av : Int32) (nc : Nat) (mt mf wt : Nat → Int32) (i : Nat) (hi : i < 40) (hv vl : Int32) : Met l yX1_isFalse wsX1_isFalse ({ frames := 0, cells := 0, slots := 0, locals := 0 }) (va_Pc [.ref (ad 1), .int (nI i), .int hv, .int vl] (fun U => va_P (dC, dI) vwCl [(ad 1, .inr (1, [.int (nI nv), .int av, .int (nI nc), .ref (ad 2), .ref (ad 3), .ref (ad 4)])), (ad 2, .inl (cI, 40, .inl mt)), (ad 3, .inl (cI, 40, .inl mf)), (ad 4, .inl (cI, 40, .inl wt))] U.heap ∧ va_K (dC, dI) vwCl [(cI, .int), (cL, .long), (cZ, .boolean)] U)) (va_Qi (fun r (_ : Unit) => f_isFalse mt mf i hv vl = r) (fun _ _ => True) xN) 0 0 xN := by
  refine Met.ofW (cc := cX1_isFalse) (maxL := 5) (ret := (some .boolean)) (by decide) rfl ?_
  intro p e s m args below meth c s₁ B hml hvv
  obtain ⟨rfl, hP0, hK⟩ := hvv
  have hx := B.exec
  have hb := B.bytes
  have hr := B.returns
  have hts := atoms_spec (ws := wsX1_isFalse) B.pre
  have hown : s.vm.findClass RX1 = some m.cls := findClass_of_methodNamed B.named
  have hlocks := B.notSynchronized
  have hw0 : (.fieldLink RX1 9 "WeightedClauses$Formula" "makesTrue" "[I" : Cond).before _ s = true := hts _ (List.mem_cons_of_mem _ wd_75)
  have hw1 : (.fieldLink RX1 15 "WeightedClauses$Formula" "makesFalse" "[I" : Cond).before _ s = true := hts _ (List.mem_cons_of_mem _ wd_76)
  have hPr : va_P (dC, dI) vwCl [(ad 1, .inr (1, [.int (nI nv), .int av, .int (nI nc), .ref (ad 2), .ref (ad 3), .ref (ad 4)])), (ad 2, .inl (cI, 40, .inl mt)), (ad 3, .inl (cI, 40, .inl mf)), (ad 4, .inl (cI, 40, .inl wt))] s.heap := hP0.sub [0, 1, 2, 3] rfl
  have hS : va_S xN s.heap s.heap [] := va_S.rf
  have hl := lv_entry [.ref (ad 1), .int (nI i), .int hv, .int vl] (n := 5) (Nat.le_of_ble_eq_true rfl)
  rw [lg_entry_eq]
  generalize (lg_sl [.ref (ad 1), .int (nI i), .int hv, .int vl] ++ List.replicate (5 - (lg_sl [.ref (ad 1), .int (nI i), .int hv, .int vl]).length) Slot.unset).toArray = ls at hl ⊢
  have hl : lv_has ls 5 [(0, .ref (ad 1)), (1, .int (nI i)), (2, .int hv), (3, .int vl)] := hl
  have hF := Eq.refl (f_isFalse mt mf i hv vl)
  conv at hF => rhs; unfold f_isFalse
  refine lv_aload_n hx hb dX1_isFalse_0 rfl (lv_at hl 0 rfl) ?_
  have hR := xP0 hPr xnN hS
  refine va_get (D := (dC, dI)) (ci := 1) (v := .ref (ad 2)) (C := RX1) (T := TX1) (N := 6) hx hb hts (xcons inX1) hown hK hR 0 rfl rfl 3 (by decide) hw0 (fun _ h9 => h9) rfl dX1_isFalse_1 ?_
  refine lv_iload_n hx hb dX1_isFalse_4 rfl (lv_at hl 1 rfl) ?_
  refine xr_iald hx hb hK hR 1 0 rfl rfl i (by omega) (by omega) dX1_isFalse_5 ?_
  refine lv_aload_n hx hb dX1_isFalse_6 rfl (lv_at hl 0 rfl) ?_
  refine va_get (D := (dC, dI)) (ci := 1) (v := .ref (ad 3)) (C := RX1) (T := TX1) (N := 6) hx hb hts (xcons inX1) hown hK hR 0 rfl rfl 4 (by decide) hw1 (fun _ h9 => h9) rfl dX1_isFalse_7 ?_
  refine lv_iload_n hx hb dX1_isFalse_10 rfl (lv_at hl 1 rfl) ?_
  refine xr_iald hx hb hK hR 2 0 rfl rfl i (by omega) (by omega) dX1_isFalse_11 ?_
  refine lv_ior hx hb dX1_isFalse_12 ?_
  refine lv_istore (lv' := [(4, .int ((mt i) ||| (mf i))), (0, .ref (ad 1)), (1, .int (nI i)), (2, .int hv), (3, .int vl)]) hx hb dX1_isFalse_13 hl (by decide) rfl (fun ls hl => ?_)
  refine lv_iload hx hb dX1_isFalse_15 (lv_at hl 0 rfl) ?_
  refine lv_iload_n hx hb dX1_isFalse_17 rfl (lv_at hl 3 rfl) ?_
  refine lv_iconst (v := (-1)) hx hb dX1_isFalse_18 (by decide) ?_
  refine lv_ixor hx hb dX1_isFalse_19 ?_
  refine lv_iand hx hb dX1_isFalse_20 ?_
  refine lv_if_ne (tgt := 41) hx hb dX1_isFalse_21 (by decide) (fun h1 => ?_) (fun h1 => ?_)
  · have hF := hF.trans (if_neg h1)
    refine lv_iconst (v := 0) hx hb dX1_isFalse_41 (by decide) ?_
    exact W.zret (v := 0) hx hb hr rfl (fun t ht hW => ⟨⟨_, (), rfl, hF, trivial⟩, hS.F ht⟩) hS.2.2 dX1_isFalse_42
  · have hF := hF.trans (if_pos h1)
    refine lv_iload hx hb dX1_isFalse_24 (lv_at hl 0 rfl) ?_
    refine lv_iload_n hx hb dX1_isFalse_26 rfl (lv_at hl 4 rfl) ?_
    refine lv_iand hx hb dX1_isFalse_27 ?_
    refine lv_aload_n hx hb dX1_isFalse_28 rfl (lv_at hl 1 rfl) ?_
    refine va_get (D := (dC, dI)) (ci := 1) (v := .ref (ad 3)) (C := RX1) (T := TX1) (N := 6) hx hb hts (xcons inX1) hown hK hR 0 rfl rfl 4 (by decide) hw1 (fun _ h9 => h9) rfl dX1_isFalse_29 ?_
    refine lv_iload_n hx hb dX1_isFalse_32 rfl (lv_at hl 2 rfl) ?_
    refine xr_iald hx hb hK hR 2 0 rfl rfl i (by omega) (by omega) dX1_isFalse_33 ?_
    refine lv_icmp_ne (tgt := 41) hx hb dX1_isFalse_34 (by decide) (fun h2 => ?_) (fun h2 => ?_)
    · have hF := hF.trans (if_neg h2)
      refine lv_iconst (v := 0) hx hb dX1_isFalse_41 (by decide) ?_
      exact W.zret (v := 0) hx hb hr rfl (fun t ht hW => ⟨⟨_, (), rfl, hF, trivial⟩, hS.F ht⟩) hS.2.2 dX1_isFalse_42
    · have hF := hF.trans (if_pos h2)
      refine lv_iconst (v := 1) hx hb dX1_isFalse_37 (by decide) ?_
      refine lv_goto (tgt := 42) hx hb dX1_isFalse_38 (by decide) ?_
      exact W.zret (v := 1) hx hb hr rfl (fun t ht hW => ⟨⟨_, (), rfl, hF, trivial⟩, hS.F ht⟩) hS.2.2 dX1_isFalse_42
