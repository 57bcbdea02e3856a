set_option maxHeartbeats 4000000 in
set_option maxRecDepth 100000 in
theorem c_X0_init (l : Launch) (dC : Nat → ClassId) (dI : Nat → Nat → Nat) (cI cL cZ : ClassId) (h0 sz : Nat) (fA : Nat) : Met l yX0_init wsX0_init ({ frames := 1, cells := 3, slots := 60, locals := 12 }) (va_Pc [.ref h0, .ref fA] (fun U => U.heap.size = sz ∧ va_P (dC, dI) vwCl [(h0, .inr (0, [.null, .null, .int 0, .long 0, .int 0, .int 0, .null, .null, .int 0]))] U.heap ∧ va_K (dC, dI) vwCl [(cI, .int), (cL, .long), (cZ, .boolean)] U ∧ va_D (fun _ => True) [(h0, .inr (0, [.null, .null, .int 0, .long 0, .int 0, .int 0, .null, .null, .int 0]))])) (va_Qv (fun (u : Nat × Nat × Nat) => True) (fun (u : Nat × Nat × Nat) t => match u with | (aS, aV, aR) => va_P (dC, dI) vwCl [(h0, .inr (0, [.ref fA, .ref aS, .int 0, .long 0, .int 0, .int 0, .ref aV, .ref aR, .int 0])), (aS, .inl (cL, 40, .inr (.inl (fun _ => 0)))), (aV, .inl (cI, 10, .inl (fun _ => 0))), (aR, .inl (cI, 10, .inl (fun _ => 0)))] t.heap ∧ va_D (va_A [(h0, .inr (0, [.null, .null, .int 0, .long 0, .int 0, .int 0, .null, .null, .int 0]))] sz) [(h0, .inr (0, [.ref fA, .ref aS, .int 0, .long 0, .int 0, .int 0, .ref aV, .ref aR, .int 0])), (aS, .inl (cL, 40, .inr (.inl (fun _ => 0)))), (aV, .inl (cI, 10, .inl (fun _ => 0))), (aR, .inl (cI, 10, .inl (fun _ => 0)))]) (va_A [(h0, .inr (0, [.null, .null, .int 0, .long 0, .int 0, .int 0, .null, .null, .int 0]))] sz)) 3 60 (va_A [(h0, .inr (0, [.null, .null, .int 0, .long 0, .int 0, .int 0, .null, .null, .int 0]))] sz) := by
  refine Met.ofW (cc := cX0_init) (maxL := 2) (ret := none) (by decide) rfl ?_
  intro p e s m args below meth c s₁ B hml hvv
  obtain ⟨rfl, hsz, hP, hK, hD0⟩ := hvv
  have hx := B.exec
  have hb := B.bytes
  have hr := B.returns
  have hts := atoms_spec (ws := wsX0_init) B.pre
  have hown : s.vm.findClass RX0 = some m.cls := findClass_of_methodNamed B.named
  have hlocks := B.notSynchronized
  have hin : meth.name = "<init>" := (name_of_methodNamed B.named B.method).1
  subst hsz
  have hD := hD0.self (sz := s.heap.size)
  have hw0 : (.arrayClass .long : Cond).before _ s = true := hts _ (List.mem_cons_of_mem _ wd_126)
  have hw1 : (.fieldLink RX0 9 "WeightedClauses$Bounds" "subsets" "[J" : Cond).before _ s = true := hts _ (List.mem_cons_of_mem _ wd_99)
  have hw2 : (.arrayClass .int : Cond).before _ s = true := hts _ (List.mem_cons_of_mem _ wd_91)
  have hw3 : (.fieldLink RX0 15 "WeightedClauses$Bounds" "stepVariable" "[I" : Cond).before _ s = true := hts _ (List.mem_cons_of_mem _ wd_104)
  have hw4 : (.fieldLink RX0 19 "WeightedClauses$Bounds" "stepReason" "[I" : Cond).before _ s = true := hts _ (List.mem_cons_of_mem _ wd_105)
  have hw5 : (.fieldLink RX0 22 "WeightedClauses$Bounds" "formula" "LWeightedClauses$Formula;" : Cond).before _ s = true := hts _ (List.mem_cons_of_mem _ wd_98)
  generalize hAe : va_A [(h0, .inr (0, [.null, .null, .int 0, .long 0, .int 0, .int 0, .null, .null, .int 0]))] s.heap.size = A at hD ⊢
  have hA : ∀ q : Nat, s.heap.size ≤ q → A q := fun q h => by rw [← hAe]; exact Or.inr h
  have hS : va_S A s.heap s.heap [] := va_S.rf
  have hP : va_P (dC, dI) vwCl [(h0, .inr (0, [.null, .null, .int 0, .long 0, .int 0, .int 0, .null, .null, .int 0]))] s.heap := hP
  have hl := lv_entry [.ref h0, .ref fA] (n := 2) (Nat.le_of_ble_eq_true rfl)
  rw [lg_entry_eq]
  generalize (lg_sl [.ref h0, .ref fA] ++ List.replicate (2 - (lg_sl [.ref h0, .ref fA]).length) Slot.unset).toArray = ls at hl ⊢
  have hl : lv_has ls 2 [(0, .ref h0), (1, .ref fA)] := hl
  refine lv_aload_n hx hb dX0_init_0 rfl (lv_at hl 0 rfl) ?_
  refine W.objInit hx hb hown (hts _ (List.mem_cons_of_mem _ wd_97)) (hts _ (List.mem_cons_of_mem _ wd_52)) (hts _ (List.mem_cons_of_mem _ wd_53)) rfl (by rw [hml]; exact hl.1) rfl dX0_init_1 (Nat.le_of_ble_eq_true rfl) (Nat.le_of_ble_eq_true rfl) ?_
  refine W.eq (g2 := F0 m 4 ls []) rfl ?_
  refine lv_aload_n hx hb dX0_init_4 rfl (lv_at hl 0 rfl) ?_
  refine lv_bipush (v := 40) hx hb dX0_init_5 (by decide) ?_
  refine va_newa (atype := .long) (ty := .long) (a0 := (40, .inr (.inl (fun _ => 0)))) (N' := 40) hx hb hw0 rfl hK hP hD hS hA (xz_l 40) (by decide) (by decide) (by show 40 * 8 ≤ 536870912; omega) (Nat.le_of_ble_eq_true rfl) (Nat.le_of_ble_eq_true rfl) dX0_init_7 (fun q7 cA H hK9 hP hD hS => ?_)
  have hcA : cL = cA := (xcA .long (fun _ => rfl) hK9 1 rfl).symm; subst hcA
  have hP : va_P (dC, dI) vwCl [(h0, .inr (0, [.null, .null, .int 0, .long 0, .int 0, .int 0, .null, .null, .int 0])), (q7, .inl (cL, 40, .inr (.inl (fun _ => 0))))] H := hP
  have hD : va_D A [(h0, .inr (0, [.null, .null, .int 0, .long 0, .int 0, .int 0, .null, .null, .int 0])), (q7, .inl (cL, 40, .inr (.inl (fun _ => 0))))] := hD
  refine va_putF (D := (dC, dI)) (ci := 0) (v := .ref q7) (ty := .array .long) (C := RX0) (T := TX0) (N := 9) hx hb hts (xcons inX0) tyX0 tyX0_ok nX0 hown hK hP hD hS 0 rfl rfl 1 (by decide) hw1 (fun _ h9 => h9) rfl hin rfl (by decide +kernel) rfl rfl (Nat.le_of_ble_eq_true rfl) dX0_init_9 (fun H locs hP hD hS => ?_)
  have hP : va_P (dC, dI) vwCl [(h0, .inr (0, [.null, .ref q7, .int 0, .long 0, .int 0, .int 0, .null, .null, .int 0])), (q7, .inl (cL, 40, .inr (.inl (fun _ => 0))))] H := hP
  have hD : va_D A [(h0, .inr (0, [.null, .ref q7, .int 0, .long 0, .int 0, .int 0, .null, .null, .int 0])), (q7, .inl (cL, 40, .inr (.inl (fun _ => 0))))] := hD
  refine lv_aload_n hx hb dX0_init_12 rfl (lv_at hl 0 rfl) ?_
  refine lv_bipush (v := 10) hx hb dX0_init_13 (by decide) ?_
  refine va_newa (atype := .int) (ty := .int) (a0 := (10, .inl (fun _ => 0))) (N' := 10) hx hb hw2 rfl hK hP hD hS hA (xz_i 10) (by decide) (by decide) (by show 10 * 4 ≤ 536870912; omega) (Nat.le_of_ble_eq_true rfl) (Nat.le_of_ble_eq_true rfl) dX0_init_15 (fun q15 cA H hK9 hP hD hS => ?_)
  have hcA : cI = cA := (xcA .int (fun _ => rfl) hK9 0 rfl).symm; subst hcA
  have hP : va_P (dC, dI) vwCl [(h0, .inr (0, [.null, .ref q7, .int 0, .long 0, .int 0, .int 0, .null, .null, .int 0])), (q7, .inl (cL, 40, .inr (.inl (fun _ => 0)))), (q15, .inl (cI, 10, .inl (fun _ => 0)))] H := hP
  have hD : va_D A [(h0, .inr (0, [.null, .ref q7, .int 0, .long 0, .int 0, .int 0, .null, .null, .int 0])), (q7, .inl (cL, 40, .inr (.inl (fun _ => 0)))), (q15, .inl (cI, 10, .inl (fun _ => 0)))] := hD
  refine va_putF (D := (dC, dI)) (ci := 0) (v := .ref q15) (ty := .array .int) (C := RX0) (T := TX0) (N := 9) hx hb hts (xcons inX0) tyX0 tyX0_ok nX0 hown hK hP hD hS 0 rfl rfl 6 (by decide) hw3 (fun _ h9 => h9) rfl hin rfl (by decide +kernel) rfl rfl (Nat.le_of_ble_eq_true rfl) dX0_init_17 (fun H locs hP hD hS => ?_)
  have hP : va_P (dC, dI) vwCl [(h0, .inr (0, [.null, .ref q7, .int 0, .long 0, .int 0, .int 0, .ref q15, .null, .int 0])), (q7, .inl (cL, 40, .inr (.inl (fun _ => 0)))), (q15, .inl (cI, 10, .inl (fun _ => 0)))] H := hP
  have hD : va_D A [(h0, .inr (0, [.null, .ref q7, .int 0, .long 0, .int 0, .int 0, .ref q15, .null, .int 0])), (q7, .inl (cL, 40, .inr (.inl (fun _ => 0)))), (q15, .inl (cI, 10, .inl (fun _ => 0)))] := hD
  refine lv_aload_n hx hb dX0_init_20 rfl (lv_at hl 0 rfl) ?_
  refine lv_bipush (v := 10) hx hb dX0_init_21 (by decide) ?_
  refine va_newa (atype := .int) (ty := .int) (a0 := (10, .inl (fun _ => 0))) (N' := 10) hx hb hw2 rfl hK hP hD hS hA (xz_i 10) (by decide) (by decide) (by show 10 * 4 ≤ 536870912; omega) (Nat.le_of_ble_eq_true rfl) (Nat.le_of_ble_eq_true rfl) dX0_init_23 (fun q23 cA H hK9 hP hD hS => ?_)
  have hcA : cI = cA := (xcA .int (fun _ => rfl) hK9 0 rfl).symm; subst hcA
  have hP : va_P (dC, dI) vwCl [(h0, .inr (0, [.null, .ref q7, .int 0, .long 0, .int 0, .int 0, .ref q15, .null, .int 0])), (q7, .inl (cL, 40, .inr (.inl (fun _ => 0)))), (q15, .inl (cI, 10, .inl (fun _ => 0))), (q23, .inl (cI, 10, .inl (fun _ => 0)))] H := hP
  have hD : va_D A [(h0, .inr (0, [.null, .ref q7, .int 0, .long 0, .int 0, .int 0, .ref q15, .null, .int 0])), (q7, .inl (cL, 40, .inr (.inl (fun _ => 0)))), (q15, .inl (cI, 10, .inl (fun _ => 0))), (q23, .inl (cI, 10, .inl (fun _ => 0)))] := hD
  refine va_putF (D := (dC, dI)) (ci := 0) (v := .ref q23) (ty := .array .int) (C := RX0) (T := TX0) (N := 9) hx hb hts (xcons inX0) tyX0 tyX0_ok nX0 hown hK hP hD hS 0 rfl rfl 7 (by decide) hw4 (fun _ h9 => h9) rfl hin rfl (by decide +kernel) rfl rfl (Nat.le_of_ble_eq_true rfl) dX0_init_25 (fun H locs hP hD hS => ?_)
  have hP : va_P (dC, dI) vwCl [(h0, .inr (0, [.null, .ref q7, .int 0, .long 0, .int 0, .int 0, .ref q15, .ref q23, .int 0])), (q7, .inl (cL, 40, .inr (.inl (fun _ => 0)))), (q15, .inl (cI, 10, .inl (fun _ => 0))), (q23, .inl (cI, 10, .inl (fun _ => 0)))] H := hP
  have hD : va_D A [(h0, .inr (0, [.null, .ref q7, .int 0, .long 0, .int 0, .int 0, .ref q15, .ref q23, .int 0])), (q7, .inl (cL, 40, .inr (.inl (fun _ => 0)))), (q15, .inl (cI, 10, .inl (fun _ => 0))), (q23, .inl (cI, 10, .inl (fun _ => 0)))] := hD
  refine lv_aload_n hx hb dX0_init_28 rfl (lv_at hl 0 rfl) ?_
  refine lv_aload_n hx hb dX0_init_29 rfl (lv_at hl 1 rfl) ?_
  refine va_putF (D := (dC, dI)) (ci := 0) (v := .ref fA) (ty := .object "WeightedClauses$Formula") (C := RX0) (T := TX0) (N := 9) hx hb hts (xcons inX0) tyX0 tyX0_ok nX0 hown hK hP hD hS 0 rfl rfl 0 (by decide) hw5 (fun _ h9 => h9) rfl hin rfl (by decide +kernel) rfl rfl (Nat.le_of_ble_eq_true rfl) dX0_init_30 (fun H locs hP hD hS => ?_)
  have hP : va_P (dC, dI) vwCl [(h0, .inr (0, [.ref fA, .ref q7, .int 0, .long 0, .int 0, .int 0, .ref q15, .ref q23, .int 0])), (q7, .inl (cL, 40, .inr (.inl (fun _ => 0)))), (q15, .inl (cI, 10, .inl (fun _ => 0))), (q23, .inl (cI, 10, .inl (fun _ => 0)))] H := hP
  have hD : va_D A [(h0, .inr (0, [.ref fA, .ref q7, .int 0, .long 0, .int 0, .int 0, .ref q15, .ref q23, .int 0])), (q7, .inl (cL, 40, .inr (.inl (fun _ => 0)))), (q15, .inl (cI, 10, .inl (fun _ => 0))), (q23, .inl (cI, 10, .inl (fun _ => 0)))] := hD
  have hP9 := hP.sub (ws' := [(h0, .inr (0, [.ref fA, .ref q7, .int 0, .long 0, .int 0, .int 0, .ref q15, .ref q23, .int 0])), (q7, .inl (cL, 40, .inr (.inl (fun _ => 0)))), (q15, .inl (cI, 10, .inl (fun _ => 0))), (q23, .inl (cI, 10, .inl (fun _ => 0)))]) [0, 1, 2, 3] rfl
  have hD9 := hD.sub (ws' := [(h0, .inr (0, [.ref fA, .ref q7, .int 0, .long 0, .int 0, .int 0, .ref q15, .ref q23, .int 0])), (q7, .inl (cL, 40, .inr (.inl (fun _ => 0)))), (q15, .inl (cI, 10, .inl (fun _ => 0))), (q23, .inl (cI, 10, .inl (fun _ => 0)))]) [0, 1, 2, 3] (by decide) rfl
  refine W.widen (k := 3) (n := 60) (Nat.le_of_ble_eq_true rfl) (Nat.le_of_ble_eq_true rfl) ?_
  exact W.vret hx hb hr (fun t ht hW => ⟨⟨(q7, q15, q23), rfl, trivial, by rw [ht]; exact hP9, hD9⟩, hS.F ht⟩) hS.2.2 dX0_init_33
