def f_bound (nc : Nat) (mt mf wt : Nat → Int32) (ss : Nat → Int64) (sc : Nat) (avl : Int64) (gh gv : Int32) (sv : Nat → Int32) (sr : Nat → Nat) (st : Nat) (hv vl : Int32) : Int64 × (Nat → Int64) × Nat × Int64 × Int32 × Int32 × (Nat → Int32) × (Nat → Nat) × Nat :=
  match (f_boundOf nc mt mf wt ss sc avl gh gv sv sr st hv vl) with
  | (r_23, ss1_23, sc1_23, avl1_23, gh1_23, gv1_23, sv1_23, sr1_23, st1_23) =>
    (r_23, (ss1_23, sc1_23, avl1_23, gh1_23, gv1_23, sv1_23, sr1_23, st1_23))
def f_subset (nc : Nat) (mt mf wt : Nat → Int32) (ss : Nat → Int64) (sc : Nat) (avl : Int64) (gh gv : Int32) (sv : Nat → Int32) (sr : Nat → Nat) (st : Nat) (hv vl : Int32) (j : Int32) : Int64 × (Nat → Int64) × Nat × Int64 × Int32 × Int32 × (Nat → Int32) × (Nat → Nat) × Nat :=
  match (f_boundOf nc mt mf wt ss sc avl gh gv sv sr st hv vl) with
  | (r_23, ss1_23, sc1_23, avl1_23, gh1_23, gv1_23, sv1_23, sr1_23, st1_23) =>
    ((f_subsetAt ss1_23 sc1_23 j), (ss1_23, sc1_23, avl1_23, gh1_23, gv1_23, sv1_23, sr1_23, st1_23))
set_option maxHeartbeats 4000000 in
set_option maxRecDepth 100000 in
theorem c_bound (l : Launch) (dC : Nat → ClassId) (dI : Nat → Nat → Nat) (cI cL cZ : ClassId) (ad : Nat → Nat) (hinj : xI ad 15) (nv : Nat) (av : Int32) (nc : Nat) (mt mf wt : Nat → Int32) (ss : Nat → Int64) (sc : Nat) (avl : Int64) (gh gv : Int32) (sv : Nat → Int32) (sr : Nat → Nat) (st : Nat) (hnc : nc ≤ 40) (hv vl : Int32) (hok : ¬ f_isState av hv vl = 0) : Met l yX3_bound wsX3_bound ({ frames := 6, cells := 0, slots := 0, locals := 99 }) (va_Pc [.ref (ad 0), .int hv, .int vl] (fun U => va_P (dC, dI) vwCl [(ad 0, .inr (3, [.ref (ad 1), .ref (ad 5), .ref (ad 9)])), (ad 1, .inr (1, [.int (nI nv), .int av, .int (nI nc), .ref (ad 2), .ref (ad 3), .ref (ad 4)])), (ad 2, .inl (cI, 40, .inl mt)), (ad 3, .inl (cI, 40, .inl mf)), (ad 4, .inl (cI, 40, .inl wt)), (ad 5, .inr (0, [.ref (ad 1), .ref (ad 6), .int (nI sc), .long avl, .int gh, .int gv, .ref (ad 7), .ref (ad 8), .int (nI st)])), (ad 6, .inl (cL, 40, .inr (.inl ss))), (ad 7, .inl (cI, 10, .inl sv)), (ad 8, .inl (cI, 10, .inl (xnI sr)))] U.heap ∧ va_K (dC, dI) vwCl [(cI, .int), (cL, .long), (cZ, .boolean)] U)) (va_Ql (fun r u => f_bound nc mt mf wt ss sc avl gh gv sv sr st hv vl = (r, u)) (xB (dC, dI) vwCl (fun (u : (Nat → Int64) × Nat × Int64 × Int32 × Int32 × (Nat → Int32) × (Nat → Nat) × Nat) => match u with | (ss1, sc1, avl1, gh1, gv1, sv1, sr1, st1) => [(ad 5, .inr (0, [.ref (ad 1), .ref (ad 6), .int (nI sc1), .long avl1, .int gh1, .int gv1, .ref (ad 7), .ref (ad 8), .int (nI st1)])), (ad 6, .inl (cL, 40, .inr (.inl ss1))), (ad 7, .inl (cI, 10, .inl sv1)), (ad 8, .inl (cI, 10, .inl (xnI sr1)))])) (xA ad [5, 6, 7, 8])) 0 0 (xA ad [5, 6, 7, 8]) := by
  refine Met.ofW (cc := cX3_bound) (maxL := 3) (ret := (some .long)) (by decide) rfl ?_
  intro p e s m args below meth c s₁ B hml hvv
  obtain ⟨rfl, hP0, hK⟩ := hvv
  have hx := B.exec
  have hb := B.bytes
  have hr := B.returns
  have hts := atoms_spec (ws := wsX3_bound) B.pre
  have hown : s.vm.findClass RX3 = some m.cls := findClass_of_methodNamed B.named
  have hlocks := B.notSynchronized
  have hw0 : (.fieldLink RX3 32 "WeightedClauses" "bounds" "LWeightedClauses$Bounds;" : Cond).before _ s = true := hts _ (List.mem_cons_of_mem _ wd_179)
  have hPr : va_P (dC, dI) vwCl [(ad 0, .inr (3, [.ref (ad 1), .ref (ad 5), .ref (ad 9)])), (ad 1, .inr (1, [.int (nI nv), .int av, .int (nI nc), .ref (ad 2), .ref (ad 3), .ref (ad 4)])), (ad 2, .inl (cI, 40, .inl mt)), (ad 3, .inl (cI, 40, .inl mf)), (ad 4, .inl (cI, 40, .inl wt))] s.heap := hP0.sub [0, 1, 2, 3, 4] rfl
  have hP : va_P (dC, dI) vwCl [(ad 5, .inr (0, [.ref (ad 1), .ref (ad 6), .int (nI sc), .long avl, .int gh, .int gv, .ref (ad 7), .ref (ad 8), .int (nI st)])), (ad 6, .inl (cL, 40, .inr (.inl ss))), (ad 7, .inl (cI, 10, .inl sv)), (ad 8, .inl (cI, 10, .inl (xnI sr)))] s.heap := hP0.sub [5, 6, 7, 8] rfl
  have hS : va_S (xA ad [5, 6, 7, 8]) s.heap s.heap [] := va_S.rf
  have hl := lv_entry [.ref (ad 0), .int hv, .int vl] (n := 3) (Nat.le_of_ble_eq_true rfl)
  rw [lg_entry_eq]
  generalize (lg_sl [.ref (ad 0), .int hv, .int vl] ++ List.replicate (3 - (lg_sl [.ref (ad 0), .int hv, .int vl]).length) Slot.unset).toArray = ls at hl ⊢
  have hl : lv_has ls 3 [(0, .ref (ad 0)), (1, .int hv), (2, .int vl)] := hl
  have hF := Eq.refl (f_bound nc mt mf wt ss sc avl gh gv sv sr st hv vl)
  conv at hF => rhs; unfold f_bound
  refine lv_aload_n hx hb dX3_bound_0 rfl (lv_at hl 0 rfl) ?_
  refine lv_iload_n hx hb dX3_bound_1 rfl (lv_at hl 1 rfl) ?_
  refine lv_iload_n hx hb dX3_bound_2 rfl (lv_at hl 2 rfl) ?_
  have hR := xP0 hPr (xnA hinj [0, 1, 2, 3, 4] rfl (by decide)) hS
  refine xro_i (va_runV (As := [.int hv, .int vl]) (rest := []) ⟨hx, hb, hml, hown, hts⟩ (c_isState l dC dI cI cL cZ ad hinj nv av nc mt mf wt hv vl) (xcwV 2 hts wd_495 wd_34 wd_492 wd_494 wd_16 rfl rfl (by decide +kernel) ⟨Nat.le_of_ble_eq_true rfl, Nat.le_of_ble_eq_true rfl⟩) (xpreV (va_recv hK hR rfl (q0 := 0) rfl) hR hK) rfl rfl hl.1 rfl (lv_room (Nat.le_of_ble_eq_true rfl)) dX3_bound_3 ⟨Nat.le_of_ble_eq_true rfl, Nat.le_of_ble_eq_true rfl⟩) hS (fun H locs hk hS => ?_)
  have hP := xkeep hP hk
  refine lv_if_ne (tgt := 17) hx hb dX3_bound_6 (by decide) (fun h1 => ?_) (fun h1 => absurd h1 hok)
  refine lv_aload_n hx hb dX3_bound_17 rfl (lv_at hl 0 rfl) ?_
  have hR := xP0 hPr (xnA hinj [0, 1, 2, 3, 4] rfl (by decide)) hS
  refine va_get (D := (dC, dI)) (ci := 3) (v := .ref (ad 5)) (C := RX3) (T := TX3) (N := 3) hx hb hts (xcons inX3) hown hK hR 0 rfl rfl 1 (by decide) hw0 (fun _ h9 => h9) rfl dX3_bound_18 ?_
  refine lv_iload_n hx hb dX3_bound_21 rfl (lv_at hl 1 rfl) ?_
  refine lv_iload_n hx hb dX3_bound_22 rfl (lv_at hl 2 rfl) ?_
  refine xrw_l (va_runV (As := [.int hv, .int vl]) (rest := []) ⟨hx, hb, hml, hown, hts⟩ (c_boundOf l dC dI cI cL cZ ad hinj nv av nc mt mf wt ss sc avl gh gv sv sr st (by omega) hv vl) (xcwV 2 hts wd_247 wd_37 wd_504 wd_245 wd_246 rfl rfl (by decide +kernel) ⟨Nat.le_of_ble_eq_true rfl, Nat.le_of_ble_eq_true rfl⟩) (xpreV (va_recv hK hP rfl (q0 := 0) rfl) ((hR.app hP).sub [1, 2, 3, 4, 5, 6, 7, 8] rfl) hK) rfl rfl hl.1 rfl (lv_room (Nat.le_of_ble_eq_true rfl)) dX3_bound_23 ⟨Nat.le_of_ble_eq_true rfl, Nat.le_of_ble_eq_true rfl⟩) hS (xAsub (by decide)) (fun r_23 u H locs h2 hB hk hS => ?_)
  obtain ⟨ss1_23, sc1_23, avl1_23, gh1_23, gv1_23, sv1_23, sr1_23, st1_23⟩ := u
  have hP : va_P (dC, dI) vwCl [(ad 5, .inr (0, [.ref (ad 1), .ref (ad 6), .int (nI sc1_23), .long avl1_23, .int gh1_23, .int gv1_23, .ref (ad 7), .ref (ad 8), .int (nI st1_23)])), (ad 6, .inl (cL, 40, .inr (.inl ss1_23))), (ad 7, .inl (cI, 10, .inl sv1_23)), (ad 8, .inl (cI, 10, .inl (xnI sr1_23)))] H := va_P.sub hB [0, 1, 2, 3] rfl
  rw [h2] at hF
  try dsimp only at hF
  exact W.lret (v := r_23) hx hb hr (fun t ht hW => ⟨⟨_, (ss1_23, sc1_23, avl1_23, gh1_23, gv1_23, sv1_23, sr1_23, st1_23), rfl, hF, xBi ht hP⟩, hS.F ht⟩) hS.2.2 dX3_bound_26
set_option maxHeartbeats 4000000 in
set_option maxRecDepth 100000 in
theorem c_subset (l : Launch) (dC : Nat → ClassId) (dI : Nat → Nat → Nat) (cI cL cZ : ClassId) (ad : Nat → Nat) (hinj : xI ad 15) (nv : Nat) (av : Int32) (nc : Nat) (mt mf wt : Nat → Int32) (ss : Nat → Int64) (sc : Nat) (avl : Int64) (gh gv : Int32) (sv : Nat → Int32) (sr : Nat → Nat) (st : Nat) (hnc : nc ≤ 40) (hv vl : Int32) (j : Int32) (hok : ¬ f_isState av hv vl = 0) : Met l yX3_subset wsX3_subset ({ frames := 6, cells := 0, slots := 0, locals := 99 }) (va_Pc [.ref (ad 0), .int hv, .int vl, .int j] (fun U => va_P (dC, dI) vwCl [(ad 0, .inr (3, [.ref (ad 1), .ref (ad 5), .ref (ad 9)])), (ad 1, .inr (1, [.int (nI nv), .int av, .int (nI nc), .ref (ad 2), .ref (ad 3), .ref (ad 4)])), (ad 2, .inl (cI, 40, .inl mt)), (ad 3, .inl (cI, 40, .inl mf)), (ad 4, .inl (cI, 40, .inl wt)), (ad 5, .inr (0, [.ref (ad 1), .ref (ad 6), .int (nI sc), .long avl, .int gh, .int gv, .ref (ad 7), .ref (ad 8), .int (nI st)])), (ad 6, .inl (cL, 40, .inr (.inl ss))), (ad 7, .inl (cI, 10, .inl sv)), (ad 8, .inl (cI, 10, .inl (xnI sr)))] U.heap ∧ va_K (dC, dI) vwCl [(cI, .int), (cL, .long), (cZ, .boolean)] U)) (va_Ql (fun r u => f_subset nc mt mf wt ss sc avl gh gv sv sr st hv vl j = (r, u)) (xB (dC, dI) vwCl (fun (u : (Nat → Int64) × Nat × Int64 × Int32 × Int32 × (Nat → Int32) × (Nat → Nat) × Nat) => match u with | (ss1, sc1, avl1, gh1, gv1, sv1, sr1, st1) => [(ad 5, .inr (0, [.ref (ad 1), .ref (ad 6), .int (nI sc1), .long avl1, .int gh1, .int gv1, .ref (ad 7), .ref (ad 8), .int (nI st1)])), (ad 6, .inl (cL, 40, .inr (.inl ss1))), (ad 7, .inl (cI, 10, .inl sv1)), (ad 8, .inl (cI, 10, .inl (xnI sr1)))])) (xA ad [5, 6, 7, 8])) 0 0 (xA ad [5, 6, 7, 8]) := by
  refine Met.ofW (cc := cX3_subset) (maxL := 4) (ret := (some .long)) (by decide) rfl ?_
  intro p e s m args below meth c s₁ B hml hvv
  obtain ⟨rfl, hP0, hK⟩ := hvv
  have hx := B.exec
  have hb := B.bytes
  have hr := B.returns
  have hts := atoms_spec (ws := wsX3_subset) B.pre
  have hown : s.vm.findClass RX3 = some m.cls := findClass_of_methodNamed B.named
  have hlocks := B.notSynchronized
  have hw0 : (.fieldLink RX3 32 "WeightedClauses" "bounds" "LWeightedClauses$Bounds;" : Cond).before _ s = true := hts _ (List.mem_cons_of_mem _ wd_179)
  have hPr : va_P (dC, dI) vwCl [(ad 0, .inr (3, [.ref (ad 1), .ref (ad 5), .ref (ad 9)])), (ad 1, .inr (1, [.int (nI nv), .int av, .int (nI nc), .ref (ad 2), .ref (ad 3), .ref (ad 4)])), (ad 2, .inl (cI, 40, .inl mt)), (ad 3, .inl (cI, 40, .inl mf)), (ad 4, .inl (cI, 40, .inl wt))] s.heap := hP0.sub [0, 1, 2, 3, 4] rfl
  have hP : va_P (dC, dI) vwCl [(ad 5, .inr (0, [.ref (ad 1), .ref (ad 6), .int (nI sc), .long avl, .int gh, .int gv, .ref (ad 7), .ref (ad 8), .int (nI st)])), (ad 6, .inl (cL, 40, .inr (.inl ss))), (ad 7, .inl (cI, 10, .inl sv)), (ad 8, .inl (cI, 10, .inl (xnI sr)))] s.heap := hP0.sub [5, 6, 7, 8] rfl
  have hS : va_S (xA ad [5, 6, 7, 8]) s.heap s.heap [] := va_S.rf
  have hl := lv_entry [.ref (ad 0), .int hv, .int vl, .int j] (n := 4) (Nat.le_of_ble_eq_true rfl)
  rw [lg_entry_eq]
  generalize (lg_sl [.ref (ad 0), .int hv, .int vl, .int j] ++ List.replicate (4 - (lg_sl [.ref (ad 0), .int hv, .int vl, .int j]).length) Slot.unset).toArray = ls at hl ⊢
  have hl : lv_has ls 4 [(0, .ref (ad 0)), (1, .int hv), (2, .int vl), (3, .int j)] := hl
  have hF := Eq.refl (f_subset nc mt mf wt ss sc avl gh gv sv sr st hv vl j)
  conv at hF => rhs; unfold f_subset
  refine lv_aload_n hx hb dX3_subset_0 rfl (lv_at hl 0 rfl) ?_
  refine lv_iload_n hx hb dX3_subset_1 rfl (lv_at hl 1 rfl) ?_
  refine lv_iload_n hx hb dX3_subset_2 rfl (lv_at hl 2 rfl) ?_
  have hR := xP0 hPr (xnA hinj [0, 1, 2, 3, 4] rfl (by decide)) hS
  refine xro_i (va_runV (As := [.int hv, .int vl]) (rest := []) ⟨hx, hb, hml, hown, hts⟩ (c_isState l dC dI cI cL cZ ad hinj nv av nc mt mf wt hv vl) (xcwV 2 hts wd_495 wd_34 wd_492 wd_494 wd_16 rfl rfl (by decide +kernel) ⟨Nat.le_of_ble_eq_true rfl, Nat.le_of_ble_eq_true rfl⟩) (xpreV (va_recv hK hR rfl (q0 := 0) rfl) hR hK) rfl rfl hl.1 rfl (lv_room (Nat.le_of_ble_eq_true rfl)) dX3_subset_3 ⟨Nat.le_of_ble_eq_true rfl, Nat.le_of_ble_eq_true rfl⟩) hS (fun H locs hk hS => ?_)
  have hP := xkeep hP hk
  refine lv_if_ne (tgt := 17) hx hb dX3_subset_6 (by decide) (fun h1 => ?_) (fun h1 => absurd h1 hok)
  refine lv_aload_n hx hb dX3_subset_17 rfl (lv_at hl 0 rfl) ?_
  have hR := xP0 hPr (xnA hinj [0, 1, 2, 3, 4] rfl (by decide)) hS
  refine va_get (D := (dC, dI)) (ci := 3) (v := .ref (ad 5)) (C := RX3) (T := TX3) (N := 3) hx hb hts (xcons inX3) hown hK hR 0 rfl rfl 1 (by decide) hw0 (fun _ h9 => h9) rfl dX3_subset_18 ?_
  refine lv_iload_n hx hb dX3_subset_21 rfl (lv_at hl 1 rfl) ?_
  refine lv_iload_n hx hb dX3_subset_22 rfl (lv_at hl 2 rfl) ?_
  refine xrw_l (va_runV (As := [.int hv, .int vl]) (rest := []) ⟨hx, hb, hml, hown, hts⟩ (c_boundOf l dC dI cI cL cZ ad hinj nv av nc mt mf wt ss sc avl gh gv sv sr st (by omega) hv vl) (xcwV 2 hts wd_247 wd_37 wd_504 wd_245 wd_246 rfl rfl (by decide +kernel) ⟨Nat.le_of_ble_eq_true rfl, Nat.le_of_ble_eq_true rfl⟩) (xpreV (va_recv hK hP rfl (q0 := 0) rfl) ((hR.app hP).sub [1, 2, 3, 4, 5, 6, 7, 8] rfl) hK) rfl rfl hl.1 rfl (lv_room (Nat.le_of_ble_eq_true rfl)) dX3_subset_23 ⟨Nat.le_of_ble_eq_true rfl, Nat.le_of_ble_eq_true rfl⟩) hS (xAsub (by decide)) (fun r_23 u H locs h2 hB hk hS => ?_)
  obtain ⟨ss1_23, sc1_23, avl1_23, gh1_23, gv1_23, sv1_23, sr1_23, st1_23⟩ := u
  have hP : va_P (dC, dI) vwCl [(ad 5, .inr (0, [.ref (ad 1), .ref (ad 6), .int (nI sc1_23), .long avl1_23, .int gh1_23, .int gv1_23, .ref (ad 7), .ref (ad 8), .int (nI st1_23)])), (ad 6, .inl (cL, 40, .inr (.inl ss1_23))), (ad 7, .inl (cI, 10, .inl sv1_23)), (ad 8, .inl (cI, 10, .inl (xnI sr1_23)))] H := va_P.sub hB [0, 1, 2, 3] rfl
  rw [h2] at hF
  try dsimp only at hF
  have hsc := boundOf_sc h2
  refine lv_pop2_2 hx hb dX3_subset_26 rfl ?_
  refine lv_aload_n hx hb dX3_subset_27 rfl (lv_at hl 0 rfl) ?_
  have hR := xP0 hPr (xnA hinj [0, 1, 2, 3, 4] rfl (by decide)) hS
  refine va_get (D := (dC, dI)) (ci := 3) (v := .ref (ad 5)) (C := RX3) (T := TX3) (N := 3) hx hb hts (xcons inX3) hown hK hR 0 rfl rfl 1 (by decide) hw0 (fun _ h9 => h9) rfl dX3_subset_28 ?_
  refine lv_iload_n hx hb dX3_subset_31 rfl (lv_at hl 3 rfl) ?_
  refine xro_l (va_runV (As := [.int j]) (rest := []) ⟨hx, hb, hml, hown, hts⟩ (c_subsetAt l dC dI cI cL cZ ad hinj ss1_23 sc1_23 avl1_23 gh1_23 gv1_23 sv1_23 sr1_23 st1_23 j hsc) (xcwV 1 hts wd_515 wd_37 wd_512 wd_513 wd_514 rfl rfl (by decide +kernel) ⟨Nat.le_of_ble_eq_true rfl, Nat.le_of_ble_eq_true rfl⟩) (xpreV (va_recv hK hP rfl (q0 := 0) rfl) hP hK) rfl rfl hl.1 rfl (lv_room (Nat.le_of_ble_eq_true rfl)) dX3_subset_32 ⟨Nat.le_of_ble_eq_true rfl, Nat.le_of_ble_eq_true rfl⟩) hS (fun H locs hk hS => ?_)
  have hP := xkeep hP hk
  exact W.lret (v := (f_subsetAt ss1_23 sc1_23 j)) hx hb hr (fun t ht hW => ⟨⟨_, (ss1_23, sc1_23, avl1_23, gh1_23, gv1_23, sv1_23, sr1_23, st1_23), rfl, hF, xBi ht hP⟩, hS.F ht⟩) hS.2.2 dX3_subset_35
