def f_add (nc : Nat) (mt mf wt : Nat → Int32) (w tb fb : Int32) : Int32 × Nat × (Nat → Int32) × (Nat → Int32) × (Nat → Int32) :=
  if (nI nc) < 40 then
    ((nI nc), ((nc + 1), (upd mt nc tb), (upd mf nc fb), (upd wt nc w)))
  else
    ((-1), (nc, mt, mf, wt))
def f_replaceWeight (nc : Nat) (mt mf wt : Nat → Int32) (k w : Int32) : Int32 × Nat × (Nat → Int32) × (Nat → Int32) × (Nat → Int32) :=
  ((wt k.toNatClampNeg), (nc, mt, mf, (upd wt k.toNatClampNeg w)))
set_option maxHeartbeats 4000000 in
set_option maxRecDepth 100000 in
theorem c_add (l : Launch) (dC : Nat → ClassId) (dI : Nat → Nat → Nat) (cI cL cZ : ClassId) (ad : Nat → Nat) (hinj : xI ad 15) (nv : Nat) (av : Int32) (nc : Nat) (mt mf wt : Nat → Int32) (hnc : nc ≤ 40) (w tb fb : Int32) : Met l yX1_add wsX1_add ({ frames := 0, cells := 0, slots := 0, locals := 0 }) (va_Pc [.ref (ad 1), .int w, .int tb, .int fb] (fun U => va_P (dC, dI) vwCl [(ad 1, .inr (1, [.int (nI nv), .int av, .int (nI nc), .ref (ad 2), .ref (ad 3), .ref (ad 4)])), (ad 2, .inl (cI, 40, .inl mt)), (ad 3, .inl (cI, 40, .inl mf)), (ad 4, .inl (cI, 40, .inl wt))] U.heap ∧ va_K (dC, dI) vwCl [(cI, .int), (cL, .long), (cZ, .boolean)] U)) (va_Qi (fun r u => f_add nc mt mf wt w tb fb = (r, u)) (xB (dC, dI) vwCl (fun (u : Nat × (Nat → Int32) × (Nat → Int32) × (Nat → Int32)) => match u with | (nc1, mt1, mf1, wt1) => [(ad 1, .inr (1, [.int (nI nv), .int av, .int (nI nc1), .ref (ad 2), .ref (ad 3), .ref (ad 4)])), (ad 2, .inl (cI, 40, .inl mt1)), (ad 3, .inl (cI, 40, .inl mf1)), (ad 4, .inl (cI, 40, .inl wt1))])) (xA ad [1, 2, 3, 4])) 0 0 (xA ad [1, 2, 3, 4]) := by
  refine Met.ofW (cc := cX1_add) (maxL := 5) (ret := (some .int)) (by decide) rfl ?_
  intro p e s m args below meth c s₁ B hml hvv
  obtain ⟨rfl, hP0, hK⟩ := hvv
  have hx := B.exec
  have hb := B.bytes
  have hr := B.returns
  have hts := atoms_spec (ws := wsX1_add) B.pre
  have hown : s.vm.findClass RX1 = some m.cls := findClass_of_methodNamed B.named
  have hlocks := B.notSynchronized
  have hw0 : (.fieldLink RX1 28 "WeightedClauses$Formula" "clauseCount" "I" : Cond).before _ s = true := hts _ (List.mem_cons_of_mem _ wd_72)
  have hw1 : (.fieldLink RX1 18 "WeightedClauses$Formula" "weights" "[I" : Cond).before _ s = true := hts _ (List.mem_cons_of_mem _ wd_77)
  have hw2 : (.fieldLink RX1 9 "WeightedClauses$Formula" "makesTrue" "[I" : Cond).before _ s = true := hts _ (List.mem_cons_of_mem _ wd_75)
  have hw3 : (.fieldLink RX1 15 "WeightedClauses$Formula" "makesFalse" "[I" : Cond).before _ s = true := hts _ (List.mem_cons_of_mem _ wd_76)
  have hP : va_P (dC, dI) vwCl [(ad 1, .inr (1, [.int (nI nv), .int av, .int (nI nc), .ref (ad 2), .ref (ad 3), .ref (ad 4)])), (ad 2, .inl (cI, 40, .inl mt)), (ad 3, .inl (cI, 40, .inl mf)), (ad 4, .inl (cI, 40, .inl wt))] s.heap := hP0.sub [0, 1, 2, 3] rfl
  have hS : va_S (xA ad [1, 2, 3, 4]) s.heap s.heap [] := va_S.rf
  have hl := lv_entry [.ref (ad 1), .int w, .int tb, .int fb] (n := 5) (Nat.le_of_ble_eq_true rfl)
  rw [lg_entry_eq]
  generalize (lg_sl [.ref (ad 1), .int w, .int tb, .int fb] ++ List.replicate (5 - (lg_sl [.ref (ad 1), .int w, .int tb, .int fb]).length) Slot.unset).toArray = ls at hl ⊢
  have hl : lv_has ls 5 [(0, .ref (ad 1)), (1, .int w), (2, .int tb), (3, .int fb)] := hl
  have hF := Eq.refl (f_add nc mt mf wt w tb fb)
  conv at hF => rhs; unfold f_add
  refine lv_aload_n hx hb dX1_add_0 rfl (lv_at hl 0 rfl) ?_
  refine va_get (D := (dC, dI)) (ci := 1) (v := .int (nI nc)) (C := RX1) (T := TX1) (N := 6) hx hb hts (xcons inX1) hown hK hP 0 rfl rfl 2 (by decide) hw0 (fun _ h9 => h9) rfl dX1_add_1 ?_
  refine lv_istore (lv' := [(4, .int (nI nc)), (0, .ref (ad 1)), (1, .int w), (2, .int tb), (3, .int fb)]) hx hb dX1_add_4 hl (by decide) rfl (fun ls hl => ?_)
  refine lv_iload hx hb dX1_add_6 (lv_at hl 0 rfl) ?_
  refine lv_bipush (v := 40) hx hb dX1_add_8 (by decide) ?_
  refine lv_icmp_lt (tgt := 15) hx hb dX1_add_10 (by decide) (fun h1 => ?_) (fun h1 => ?_)
  · have hF := hF.trans (if_pos h1)
    have hlt := xlt 40 h1 (by omega) (by decide)
    refine lv_aload_n hx hb dX1_add_15 rfl (lv_at hl 1 rfl) ?_
    refine va_get (D := (dC, dI)) (ci := 1) (v := .ref (ad 4)) (C := RX1) (T := TX1) (N := 6) hx hb hts (xcons inX1) hown hK hP 0 rfl rfl 5 (by decide) hw1 (fun _ h9 => h9) rfl dX1_add_16 ?_
    refine lv_iload hx hb dX1_add_19 (lv_at hl 0 rfl) ?_
    refine lv_iload_n hx hb dX1_add_21 rfl (lv_at hl 2 rfl) ?_
    refine xr_iast hx hb hK hP (xD hinj [1, 2, 3, 4] rfl (by decide) (by decide)) hS 3 0 rfl rfl nc (by omega) (by omega) dX1_add_22 (fun H locs hP hS => ?_)
    have hP : va_P (dC, dI) vwCl [(ad 1, .inr (1, [.int (nI nv), .int av, .int (nI nc), .ref (ad 2), .ref (ad 3), .ref (ad 4)])), (ad 2, .inl (cI, 40, .inl mt)), (ad 3, .inl (cI, 40, .inl mf)), (ad 4, .inl (cI, 40, .inl (upd wt nc w)))] H := hP
    refine lv_aload_n hx hb dX1_add_23 rfl (lv_at hl 1 rfl) ?_
    refine va_get (D := (dC, dI)) (ci := 1) (v := .ref (ad 2)) (C := RX1) (T := TX1) (N := 6) hx hb hts (xcons inX1) hown hK hP 0 rfl rfl 3 (by decide) hw2 (fun _ h9 => h9) rfl dX1_add_24 ?_
    refine lv_iload hx hb dX1_add_27 (lv_at hl 0 rfl) ?_
    refine lv_iload_n hx hb dX1_add_29 rfl (lv_at hl 3 rfl) ?_
    refine xr_iast hx hb hK hP (xD hinj [1, 2, 3, 4] rfl (by decide) (by decide)) hS 1 0 rfl rfl nc (by omega) (by omega) dX1_add_30 (fun H locs hP hS => ?_)
    have hP : va_P (dC, dI) vwCl [(ad 1, .inr (1, [.int (nI nv), .int av, .int (nI nc), .ref (ad 2), .ref (ad 3), .ref (ad 4)])), (ad 2, .inl (cI, 40, .inl (upd mt nc tb))), (ad 3, .inl (cI, 40, .inl mf)), (ad 4, .inl (cI, 40, .inl (upd wt nc w)))] H := hP
    refine lv_aload_n hx hb dX1_add_31 rfl (lv_at hl 1 rfl) ?_
    refine va_get (D := (dC, dI)) (ci := 1) (v := .ref (ad 3)) (C := RX1) (T := TX1) (N := 6) hx hb hts (xcons inX1) hown hK hP 0 rfl rfl 4 (by decide) hw3 (fun _ h9 => h9) rfl dX1_add_32 ?_
    refine lv_iload hx hb dX1_add_35 (lv_at hl 0 rfl) ?_
    refine lv_iload_n hx hb dX1_add_37 rfl (lv_at hl 4 rfl) ?_
    refine xr_iast hx hb hK hP (xD hinj [1, 2, 3, 4] rfl (by decide) (by decide)) hS 2 0 rfl rfl nc (by omega) (by omega) dX1_add_38 (fun H locs hP hS => ?_)
    have hP : va_P (dC, dI) vwCl [(ad 1, .inr (1, [.int (nI nv), .int av, .int (nI nc), .ref (ad 2), .ref (ad 3), .ref (ad 4)])), (ad 2, .inl (cI, 40, .inl (upd mt nc tb))), (ad 3, .inl (cI, 40, .inl (upd mf nc fb))), (ad 4, .inl (cI, 40, .inl (upd wt nc w)))] H := hP
    refine lv_aload_n hx hb dX1_add_39 rfl (lv_at hl 1 rfl) ?_
    refine lv_iload hx hb dX1_add_40 (lv_at hl 0 rfl) ?_
    refine lv_iconst (v := 1) hx hb dX1_add_42 (by decide) ?_
    refine xr_add1 hx hb dX1_add_43 ?_
    refine va_put (D := (dC, dI)) (ci := 1) (v := .int (nI (nc + 1))) (ty := .int) (C := RX1) (T := TX1) (N := 6) hx hb hts (xcons inX1) tyX1 tyX1_ok nX1 hown hK hP (xD hinj [1, 2, 3, 4] rfl (by decide) (by decide)) hS 0 rfl rfl 2 (by decide) hw0 (fun _ h9 => h9) rfl (by decide +kernel) rfl rfl (Nat.le_of_ble_eq_true rfl) dX1_add_44 (fun H locs hP _ hS => ?_)
    have hP : va_P (dC, dI) vwCl [(ad 1, .inr (1, [.int (nI nv), .int av, .int (nI (nc + 1)), .ref (ad 2), .ref (ad 3), .ref (ad 4)])), (ad 2, .inl (cI, 40, .inl (upd mt nc tb))), (ad 3, .inl (cI, 40, .inl (upd mf nc fb))), (ad 4, .inl (cI, 40, .inl (upd wt nc w)))] H := hP
    refine lv_iload hx hb dX1_add_47 (lv_at hl 0 rfl) ?_
    exact W.iret (v := (nI nc)) hx hb hr (fun t ht hW => ⟨⟨_, ((nc + 1), (upd mt nc tb), (upd mf nc fb), (upd wt nc w)), rfl, hF, xBi ht hP⟩, hS.F ht⟩) hS.2.2 dX1_add_49
  · have hF := hF.trans (if_neg h1)
    refine lv_iconst (v := (-1)) hx hb dX1_add_13 (by decide) ?_
    exact W.iret (v := (-1)) hx hb hr (fun t ht hW => ⟨⟨_, (nc, mt, mf, wt), rfl, hF, xBi ht hP⟩, hS.F ht⟩) hS.2.2 dX1_add_14
set_option maxHeartbeats 4000000 in
set_option maxRecDepth 100000 in
theorem c_replaceWeight (l : Launch) (dC : Nat → ClassId) (dI : Nat → Nat → Nat) (cI cL cZ : ClassId) (ad : Nat → Nat) (hinj : xI ad 15) (nv : Nat) (av : Int32) (nc : Nat) (mt mf wt : Nat → Int32) (hnc : nc ≤ 40) (k w : Int32) (hk1 : ¬ k < 0) (hk2 : ¬ nI nc ≤ k) : Met l yX1_replaceWeight wsX1_replaceWeight ({ frames := 0, cells := 0, slots := 0, locals := 0 }) (va_Pc [.ref (ad 1), .int k, .int w] (fun U => va_P (dC, dI) vwCl [(ad 1, .inr (1, [.int (nI nv), .int av, .int (nI nc), .ref (ad 2), .ref (ad 3), .ref (ad 4)])), (ad 2, .inl (cI, 40, .inl mt)), (ad 3, .inl (cI, 40, .inl mf)), (ad 4, .inl (cI, 40, .inl wt))] U.heap ∧ va_K (dC, dI) vwCl [(cI, .int), (cL, .long), (cZ, .boolean)] U)) (va_Qi (fun r u => f_replaceWeight nc mt mf wt k w = (r, u)) (xB (dC, dI) vwCl (fun (u : Nat × (Nat → Int32) × (Nat → Int32) × (Nat → Int32)) => match u with | (nc1, mt1, mf1, wt1) => [(ad 1, .inr (1, [.int (nI nv), .int av, .int (nI nc1), .ref (ad 2), .ref (ad 3), .ref (ad 4)])), (ad 2, .inl (cI, 40, .inl mt1)), (ad 3, .inl (cI, 40, .inl mf1)), (ad 4, .inl (cI, 40, .inl wt1))])) (xA ad [1, 2, 3, 4])) 0 0 (xA ad [1, 2, 3, 4]) := by
  refine Met.ofW (cc := cX1_replaceWeight) (maxL := 4) (ret := (some .int)) (by decide) rfl ?_
  intro p e s m args below meth c s₁ B hml hvv
  obtain ⟨rfl, hP0, hK⟩ := hvv
  have hx := B.exec
  have hb := B.bytes
  have hr := B.returns
  have hts := atoms_spec (ws := wsX1_replaceWeight) B.pre
  have hown : s.vm.findClass RX1 = some m.cls := findClass_of_methodNamed B.named
  have hlocks := B.notSynchronized
  have hw0 : (.fieldLink RX1 18 "WeightedClauses$Formula" "weights" "[I" : Cond).before _ s = true := hts _ (List.mem_cons_of_mem _ wd_77)
  have hP : va_P (dC, dI) vwCl [(ad 1, .inr (1, [.int (nI nv), .int av, .int (nI nc), .ref (ad 2), .ref (ad 3), .ref (ad 4)])), (ad 2, .inl (cI, 40, .inl mt)), (ad 3, .inl (cI, 40, .inl mf)), (ad 4, .inl (cI, 40, .inl wt))] s.heap := hP0.sub [0, 1, 2, 3] rfl
  have hS : va_S (xA ad [1, 2, 3, 4]) s.heap s.heap [] := va_S.rf
  have hl := lv_entry [.ref (ad 1), .int k, .int w] (n := 4) (Nat.le_of_ble_eq_true rfl)
  rw [lg_entry_eq]
  generalize (lg_sl [.ref (ad 1), .int k, .int w] ++ List.replicate (4 - (lg_sl [.ref (ad 1), .int k, .int w]).length) Slot.unset).toArray = ls at hl ⊢
  have hl : lv_has ls 4 [(0, .ref (ad 1)), (1, .int k), (2, .int w)] := hl
  have hF := Eq.refl (f_replaceWeight nc mt mf wt k w)
  conv at hF => rhs; unfold f_replaceWeight
  refine lv_aload_n hx hb dX1_replaceWeight_0 rfl (lv_at hl 0 rfl) ?_
  refine va_get (D := (dC, dI)) (ci := 1) (v := .ref (ad 4)) (C := RX1) (T := TX1) (N := 6) hx hb hts (xcons inX1) hown hK hP 0 rfl rfl 5 (by decide) hw0 (fun _ h9 => h9) rfl dX1_replaceWeight_1 ?_
  refine lv_iload_n hx hb dX1_replaceWeight_4 rfl (lv_at hl 1 rfl) ?_
  refine va_iald hx hb hK hP 3 0 rfl rfl (xin hk1 hk2 (by omega) (by decide)) dX1_replaceWeight_5 ?_
  refine lv_istore_n (lv' := [(3, .int (wt k.toNatClampNeg)), (0, .ref (ad 1)), (1, .int k), (2, .int w)]) hx hb dX1_replaceWeight_6 rfl hl (by decide) rfl (fun ls hl => ?_)
  refine lv_aload_n hx hb dX1_replaceWeight_7 rfl (lv_at hl 1 rfl) ?_
  refine va_get (D := (dC, dI)) (ci := 1) (v := .ref (ad 4)) (C := RX1) (T := TX1) (N := 6) hx hb hts (xcons inX1) hown hK hP 0 rfl rfl 5 (by decide) hw0 (fun _ h9 => h9) rfl dX1_replaceWeight_8 ?_
  refine lv_iload_n hx hb dX1_replaceWeight_11 rfl (lv_at hl 2 rfl) ?_
  refine lv_iload_n hx hb dX1_replaceWeight_12 rfl (lv_at hl 3 rfl) ?_
  refine va_iast hx hb hK hP (xD hinj [1, 2, 3, 4] rfl (by decide) (by decide)) hS 3 0 rfl rfl (xin hk1 hk2 (by omega) (by decide)) dX1_replaceWeight_13 (fun H locs hP _ hS => ?_)
  have hP : va_P (dC, dI) vwCl [(ad 1, .inr (1, [.int (nI nv), .int av, .int (nI nc), .ref (ad 2), .ref (ad 3), .ref (ad 4)])), (ad 2, .inl (cI, 40, .inl mt)), (ad 3, .inl (cI, 40, .inl mf)), (ad 4, .inl (cI, 40, .inl (upd wt k.toNatClampNeg w)))] H := hP
  refine lv_iload_n hx hb dX1_replaceWeight_14 rfl (lv_at hl 0 rfl) ?_
  exact W.iret (v := (wt k.toNatClampNeg)) hx hb hr (fun t ht hW => ⟨⟨_, (nc, mt, mf, (upd wt k.toNatClampNeg w)), rfl, hF, xBi ht hP⟩, hS.F ht⟩) hS.2.2 dX1_replaceWeight_15
