def f_nextSubset_L (nc : Nat) (mt mf : Nat → Int32) (avl : Int64) : Nat → Nat → Int32 → Int32 → (Nat → Int32) → (Nat → Nat) → Nat → Int64 × Int32 × Int32 × (Nat → Int32) × (Nat → Nat) × Nat
  | 0, i, gh2, gv2, sv2, sr2, st2 =>
    (0, (gh2, gv2, sv2, sr2, st2))
  | n + 1, i, gh2, gv2, sv2, sr2, st2 =>
    if (f_firstFalseClause nc mt mf avl gh2 gv2) = (-1) then
      if (f_firstUnitClause nc mt mf avl gh2 gv2) = (-1) then
        (0, (gh2, gv2, sv2, sr2, st2))
      else
        match (f_growBy mt mf gh2 gv2 sv2 sr2 st2 ((f_firstUnitClause nc mt mf avl gh2 gv2).toNatClampNeg)) with
        | (gh1_59, gv1_59, sv1_59, sr1_59, st1_59) =>
          f_nextSubset_L nc mt mf avl n (i + 1) gh1_59 gv1_59 sv1_59 sr1_59 st1_59
    else
      ((f_subsetBehind mt mf sv2 sr2 st2 ((f_firstFalseClause nc mt mf avl gh2 gv2).toNatClampNeg)), (gh2, gv2, sv2, sr2, st2))
def f_nextSubset (nc : Nat) (mt mf : Nat → Int32) (avl : Int64) (sv : Nat → Int32) (sr : Nat → Nat) (hv vl : Int32) : Int64 × Int32 × Int32 × (Nat → Int32) × (Nat → Nat) × Nat :=
  f_nextSubset_L nc mt mf avl 11 0 hv vl sv sr 0
set_option maxHeartbeats 4000000 in
set_option maxRecDepth 100000 in
theorem c_nextSubset (l : Launch) (dC : Nat → ClassId) (dI : Nat → Nat → Nat) (cI cL cZ : ClassId) (ad : Nat → Nat) (hinj : xI ad 15) (nv : Nat) (av : Int32) (nc : Nat) (mt mf wt : Nat → Int32) (ss : Nat → Int64) (sc : Nat) (avl : Int64) (gh gv : Int32) (sv : Nat → Int32) (sr : Nat → Nat) (st : Nat) (hnc : nc ≤ 40) (hv vl : Int32) : Met l yX0_nextSubset wsX0_nextSubset ({ frames := 2, cells := 0, slots := 0, locals := 46 }) (va_Pc [.ref (ad 5), .int hv, .int vl] (fun U => va_P (dC, dI) vwCl [(ad 1, .inr (1, [.int (nI nv), .int av, .int (nI nc), .ref (ad 2), .ref (ad 3), .ref (ad 4)])), (ad 2, .inl (cI, 40, .inl mt)), (ad 3, .inl (cI, 40, .inl mf)), (ad 4, .inl (cI, 40, .inl wt)), (ad 5, .inr (0, [.ref (ad 1), .ref (ad 6), .int (nI sc), .long avl, .int gh, .int gv, .ref (ad 7), .ref (ad 8), .int (nI st)])), (ad 6, .inl (cL, 40, .inr (.inl ss))), (ad 7, .inl (cI, 10, .inl sv)), (ad 8, .inl (cI, 10, .inl (xnI sr)))] U.heap ∧ va_K (dC, dI) vwCl [(cI, .int), (cL, .long), (cZ, .boolean)] U)) (va_Ql (fun r u => f_nextSubset nc mt mf avl sv sr hv vl = (r, u)) (xB (dC, dI) vwCl (fun (u : Int32 × Int32 × (Nat → Int32) × (Nat → Nat) × Nat) => match u with | (gh1, gv1, sv1, sr1, st1) => [(ad 5, .inr (0, [.ref (ad 1), .ref (ad 6), .int (nI sc), .long avl, .int gh1, .int gv1, .ref (ad 7), .ref (ad 8), .int (nI st1)])), (ad 6, .inl (cL, 40, .inr (.inl ss))), (ad 7, .inl (cI, 10, .inl sv1)), (ad 8, .inl (cI, 10, .inl (xnI sr1)))])) (xA ad [5, 6, 7, 8])) 0 0 (xA ad [5, 6, 7, 8]) := by
  refine Met.ofW (cc := cX0_nextSubset) (maxL := 6) (ret := (some .long)) (by decide) rfl ?_
  intro p e s m args below meth c s₁ B hml hvv
  obtain ⟨rfl, hP0, hK⟩ := hvv
  have hx := B.exec
  have hb := B.bytes
  have hr := B.returns
  have hts := atoms_spec (ws := wsX0_nextSubset) B.pre
  have hown : s.vm.findClass RX0 = some m.cls := findClass_of_methodNamed B.named
  have hlocks := B.notSynchronized
  have hw0 : (.fieldLink RX0 54 "WeightedClauses$Bounds" "grownHave" "I" : Cond).before _ s = true := hts _ (List.mem_cons_of_mem _ wd_102)
  have hw1 : (.fieldLink RX0 57 "WeightedClauses$Bounds" "grownValues" "I" : Cond).before _ s = true := hts _ (List.mem_cons_of_mem _ wd_103)
  have hw2 : (.fieldLink RX0 60 "WeightedClauses$Bounds" "stepCount" "I" : Cond).before _ s = true := hts _ (List.mem_cons_of_mem _ wd_106)
  have hPr : va_P (dC, dI) vwCl [(ad 1, .inr (1, [.int (nI nv), .int av, .int (nI nc), .ref (ad 2), .ref (ad 3), .ref (ad 4)])), (ad 2, .inl (cI, 40, .inl mt)), (ad 3, .inl (cI, 40, .inl mf)), (ad 4, .inl (cI, 40, .inl wt))] s.heap := hP0.sub [0, 1, 2, 3] rfl
  have hP : va_P (dC, dI) vwCl [(ad 5, .inr (0, [.ref (ad 1), .ref (ad 6), .int (nI sc), .long avl, .int gh, .int gv, .ref (ad 7), .ref (ad 8), .int (nI st)])), (ad 6, .inl (cL, 40, .inr (.inl ss))), (ad 7, .inl (cI, 10, .inl sv)), (ad 8, .inl (cI, 10, .inl (xnI sr)))] s.heap := hP0.sub [4, 5, 6, 7] rfl
  have hS : va_S (xA ad [5, 6, 7, 8]) s.heap s.heap [] := va_S.rf
  have hl := lv_entry [.ref (ad 5), .int hv, .int vl] (n := 6) (Nat.le_of_ble_eq_true rfl)
  rw [lg_entry_eq]
  generalize (lg_sl [.ref (ad 5), .int hv, .int vl] ++ List.replicate (6 - (lg_sl [.ref (ad 5), .int hv, .int vl]).length) Slot.unset).toArray = ls at hl ⊢
  have hl : lv_has ls 6 [(0, .ref (ad 5)), (1, .int hv), (2, .int vl)] := hl
  have hF := Eq.refl (f_nextSubset nc mt mf avl sv sr hv vl)
  conv at hF => rhs; unfold f_nextSubset
  refine lv_aload_n hx hb dX0_nextSubset_0 rfl (lv_at hl 0 rfl) ?_
  refine lv_iload_n hx hb dX0_nextSubset_1 rfl (lv_at hl 1 rfl) ?_
  refine va_put (D := (dC, dI)) (ci := 0) (v := .int hv) (ty := .int) (C := RX0) (T := TX0) (N := 9) hx hb hts (xcons inX0) tyX0 tyX0_ok nX0 hown hK hP (xD hinj [5, 6, 7, 8] rfl (by decide) (by decide)) hS 0 rfl rfl 4 (by decide) hw0 (fun _ h9 => h9) rfl (by decide +kernel) rfl rfl (Nat.le_of_ble_eq_true rfl) dX0_nextSubset_2 (fun H locs hP _ hS => ?_)
  have hP : va_P (dC, dI) vwCl [(ad 5, .inr (0, [.ref (ad 1), .ref (ad 6), .int (nI sc), .long avl, .int hv, .int gv, .ref (ad 7), .ref (ad 8), .int (nI st)])), (ad 6, .inl (cL, 40, .inr (.inl ss))), (ad 7, .inl (cI, 10, .inl sv)), (ad 8, .inl (cI, 10, .inl (xnI sr)))] H := hP
  refine lv_aload_n hx hb dX0_nextSubset_5 rfl (lv_at hl 0 rfl) ?_
  refine lv_iload_n hx hb dX0_nextSubset_6 rfl (lv_at hl 2 rfl) ?_
  refine va_put (D := (dC, dI)) (ci := 0) (v := .int vl) (ty := .int) (C := RX0) (T := TX0) (N := 9) hx hb hts (xcons inX0) tyX0 tyX0_ok nX0 hown hK hP (xD hinj [5, 6, 7, 8] rfl (by decide) (by decide)) hS 0 rfl rfl 5 (by decide) hw1 (fun _ h9 => h9) rfl (by decide +kernel) rfl rfl (Nat.le_of_ble_eq_true rfl) dX0_nextSubset_7 (fun H locs hP _ hS => ?_)
  have hP : va_P (dC, dI) vwCl [(ad 5, .inr (0, [.ref (ad 1), .ref (ad 6), .int (nI sc), .long avl, .int hv, .int vl, .ref (ad 7), .ref (ad 8), .int (nI st)])), (ad 6, .inl (cL, 40, .inr (.inl ss))), (ad 7, .inl (cI, 10, .inl sv)), (ad 8, .inl (cI, 10, .inl (xnI sr)))] H := hP
  refine lv_aload_n hx hb dX0_nextSubset_10 rfl (lv_at hl 0 rfl) ?_
  refine lv_iconst (v := 0) hx hb dX0_nextSubset_11 (by decide) ?_
  refine va_put (D := (dC, dI)) (ci := 0) (v := .int 0) (ty := .int) (C := RX0) (T := TX0) (N := 9) hx hb hts (xcons inX0) tyX0 tyX0_ok nX0 hown hK hP (xD hinj [5, 6, 7, 8] rfl (by decide) (by decide)) hS 0 rfl rfl 8 (by decide) hw2 (fun _ h9 => h9) rfl (by decide +kernel) rfl rfl (Nat.le_of_ble_eq_true rfl) dX0_nextSubset_12 (fun H locs hP _ hS => ?_)
  have hP : va_P (dC, dI) vwCl [(ad 5, .inr (0, [.ref (ad 1), .ref (ad 6), .int (nI sc), .long avl, .int hv, .int vl, .ref (ad 7), .ref (ad 8), .int 0])), (ad 6, .inl (cL, 40, .inr (.inl ss))), (ad 7, .inl (cI, 10, .inl sv)), (ad 8, .inl (cI, 10, .inl (xnI sr)))] H := hP
  refine lv_iconst (v := 0) hx hb dX0_nextSubset_15 (by decide) ?_
  refine lv_istore_n (lv' := [(3, .int 0), (0, .ref (ad 5)), (1, .int hv), (2, .int vl)]) hx hb dX0_nextSubset_16 rfl hl (by decide) rfl (fun ls hl => ?_)
  have lp17 : ∀ (n : Nat) (i : Nat) (gh2 gv2 : Int32) (sv2 : Nat → Int32) (sr2 : Nat → Nat) (st2 : Nat) (H : Heap) (locs : List Loc) (ls : Array Slot), f_nextSubset nc mt mf avl sv sr hv vl = f_nextSubset_L nc mt mf avl n i gh2 gv2 sv2 sr2 st2 → i + n = 11 → st2 ≤ 10 → (∀ j, j < st2 → sr2 j < 40) → va_P (dC, dI) vwCl [(ad 5, .inr (0, [.ref (ad 1), .ref (ad 6), .int (nI sc), .long avl, .int gh2, .int gv2, .ref (ad 7), .ref (ad 8), .int (nI st2)])), (ad 6, .inl (cL, 40, .inr (.inl ss))), (ad 7, .inl (cI, 10, .inl sv2)), (ad 8, .inl (cI, 10, .inl (xnI sr2)))] H → va_S (xA ad [5, 6, 7, 8]) s.heap H locs → lv_has ls 6 [(0, .ref (ad 5)), (1, .int hv), (2, .int vl), (3, .int (nI i))] → W p l e (headSpec wsX0_nextSubset ({ frames := 2, cells := 0, slots := 0, locals := 46 })).room s m [.ref (ad 5), .int hv, .int vl].toArray below meth c H locs 0 0 (MQ below (va_Ql (fun r u => f_nextSubset nc mt mf avl sv sr hv vl = (r, u)) (xB (dC, dI) vwCl (fun (u : Int32 × Int32 × (Nat → Int32) × (Nat → Nat) × Nat) => match u with | (gh1, gv1, sv1, sr1, st1) => [(ad 5, .inr (0, [.ref (ad 1), .ref (ad 6), .int (nI sc), .long avl, .int gh1, .int gv1, .ref (ad 7), .ref (ad 8), .int (nI st1)])), (ad 6, .inl (cL, 40, .inr (.inl ss))), (ad 7, .inl (cI, 10, .inl sv1)), (ad 8, .inl (cI, 10, .inl (xnI sr1)))])) (xA ad [5, 6, 7, 8])) [.ref (ad 5), .int hv, .int vl].toArray s 0 0 (xA ad [5, 6, 7, 8])) (F0 m 17 ls []) := by
    intro n
    induction n with
    | zero =>
      intro i gh2 gv2 sv2 sr2 st2 H locs ls hF hil hst2 hsr2 hP hS hl
      rw [f_nextSubset_L] at hF
      refine lv_iload_n hx hb dX0_nextSubset_17 rfl (lv_at hl 3 rfl) ?_
      refine lv_bipush (v := 10) hx hb dX0_nextSubset_18 (by decide) ?_
      refine lv_icmp_gt (tgt := 68) hx hb dX0_nextSubset_20 (by decide) (fun h1 => ?_) (fun h1 => absurd (nI_lt (a := 10) (by omega) (by omega)) h1)
      refine lv_lconst (v := 0) hx hb dX0_nextSubset_68 (by decide) ?_
      exact W.lret (v := 0) hx hb hr (fun t ht hW => ⟨⟨_, (gh2, gv2, sv2, sr2, st2), rfl, hF, xBi ht hP⟩, hS.F ht⟩) hS.2.2 dX0_nextSubset_69
    | succ n ih =>
      intro i gh2 gv2 sv2 sr2 st2 H locs ls hF hil hst2 hsr2 hP hS hl
      rw [f_nextSubset_L] at hF
      refine lv_iload_n hx hb dX0_nextSubset_17 rfl (lv_at hl 3 rfl) ?_
      refine lv_bipush (v := 10) hx hb dX0_nextSubset_18 (by decide) ?_
      refine lv_icmp_gt (tgt := 68) hx hb dX0_nextSubset_20 (by decide) (fun h2 => absurd h2 (nI_nlt (a := 10) (b := i) (by omega) (by decide))) (fun h2 => ?_)
      refine lv_aload_n hx hb dX0_nextSubset_23 rfl (lv_at hl 0 rfl) ?_
      have hR := xP0 hPr (xnA hinj [1, 2, 3, 4] rfl (by decide)) hS
      refine xro_i (va_runV (As := []) (rest := []) ⟨hx, hb, hml, hown, hts⟩ (c_firstFalseClause l dC dI cI cL cZ ad hinj nv av nc mt mf wt ss sc avl gh2 gv2 sv2 sr2 st2 (by omega)) (xcwV 0 hts wd_269 wd_37 wd_266 wd_268 wd_4 rfl rfl (by decide +kernel) ⟨Nat.le_of_ble_eq_true rfl, Nat.le_of_ble_eq_true rfl⟩) (xpreV (va_recv hK hP rfl (q0 := 0) rfl) ((hR.app hP).sub [0, 1, 2, 3, 4, 5, 6, 7] rfl) hK) rfl rfl hl.1 rfl (lv_room (Nat.le_of_ble_eq_true rfl)) dX0_nextSubset_24 ⟨Nat.le_of_ble_eq_true rfl, Nat.le_of_ble_eq_true rfl⟩) hS (fun H locs hk hS => ?_)
      have hP := xkeep hP hk
      refine lv_istore (lv' := [(4, .int (f_firstFalseClause nc mt mf avl gh2 gv2)), (0, .ref (ad 5)), (1, .int hv), (2, .int vl), (3, .int (nI i))]) hx hb dX0_nextSubset_27 hl (by decide) rfl (fun ls hl => ?_)
      refine lv_iload hx hb dX0_nextSubset_29 (lv_at hl 0 rfl) ?_
      refine lv_iconst (v := (-1)) hx hb dX0_nextSubset_31 (by decide) ?_
      refine lv_icmp_eq (tgt := 42) hx hb dX0_nextSubset_32 (by decide) (fun h3 => ?_) (fun h3 => ?_)
      · have hF := hF.trans (if_pos h3)
        refine lv_aload_n hx hb dX0_nextSubset_42 rfl (lv_at hl 1 rfl) ?_
        have hR := xP0 hPr (xnA hinj [1, 2, 3, 4] rfl (by decide)) hS
        refine xro_i (va_runV (As := []) (rest := []) ⟨hx, hb, hml, hown, hts⟩ (c_firstUnitClause l dC dI cI cL cZ ad hinj nv av nc mt mf wt ss sc avl gh2 gv2 sv2 sr2 st2 (by omega)) (xcwV 0 hts wd_286 wd_37 wd_283 wd_285 wd_7 rfl rfl (by decide +kernel) ⟨Nat.le_of_ble_eq_true rfl, Nat.le_of_ble_eq_true rfl⟩) (xpreV (va_recv hK hP rfl (q0 := 0) rfl) ((hR.app hP).sub [0, 1, 2, 3, 4, 5, 6, 7] rfl) hK) rfl rfl hl.1 rfl (lv_room (Nat.le_of_ble_eq_true rfl)) dX0_nextSubset_43 ⟨Nat.le_of_ble_eq_true rfl, Nat.le_of_ble_eq_true rfl⟩) hS (fun H locs hk hS => ?_)
        have hP := xkeep hP hk
        refine lv_istore (lv' := [(5, .int (f_firstUnitClause nc mt mf avl gh2 gv2)), (4, .int (f_firstFalseClause nc mt mf avl gh2 gv2)), (0, .ref (ad 5)), (1, .int hv), (2, .int vl), (3, .int (nI i))]) hx hb dX0_nextSubset_46 hl (by decide) rfl (fun ls hl => ?_)
        refine lv_iload hx hb dX0_nextSubset_48 (lv_at hl 0 rfl) ?_
        refine lv_iconst (v := (-1)) hx hb dX0_nextSubset_50 (by decide) ?_
        refine lv_icmp_ne (tgt := 56) hx hb dX0_nextSubset_51 (by decide) (fun h4 => ?_) (fun h4 => ?_)
        · have hF := hF.trans (if_neg h4)
          have hq := fu_ok hnc h4
          refine lv_aload_n hx hb dX0_nextSubset_56 rfl (lv_at hl 2 rfl) ?_
          refine lv_iload hx hb dX0_nextSubset_57 (lv_at hl 0 rfl) ?_
          rw [← hq.1]
          have hR := xP0 hPr (xnA hinj [1, 2, 3, 4] rfl (by decide)) hS
          refine xrw_v (va_runV (As := [.int (nI (f_firstUnitClause nc mt mf avl gh2 gv2).toNatClampNeg)]) (rest := []) ⟨hx, hb, hml, hown, hts⟩ (c_growBy l dC dI cI cL cZ ad hinj nv av nc mt mf wt ss sc avl gh2 gv2 sv2 sr2 st2 ((f_firstUnitClause nc mt mf avl gh2 gv2).toNatClampNeg) (by omega) (by omega)) (xcwV 1 hts wd_298 wd_37 wd_295 wd_297 wd_8 rfl rfl (by decide +kernel) ⟨Nat.le_of_ble_eq_true rfl, Nat.le_of_ble_eq_true rfl⟩) (xpreV (va_recv hK hP rfl (q0 := 0) rfl) ((hR.app hP).sub [0, 1, 2, 3, 4, 5, 6, 7] rfl) hK) rfl rfl hl.1 rfl (lv_room (Nat.le_of_ble_eq_true rfl)) dX0_nextSubset_59 ⟨Nat.le_of_ble_eq_true rfl, Nat.le_of_ble_eq_true rfl⟩) hS (xAsub (by decide)) (fun u H locs h5 hB hk hS => ?_)
          obtain ⟨gh1_59, gv1_59, sv1_59, sr1_59, st1_59⟩ := u
          have hP : va_P (dC, dI) vwCl [(ad 5, .inr (0, [.ref (ad 1), .ref (ad 6), .int (nI sc), .long avl, .int gh1_59, .int gv1_59, .ref (ad 7), .ref (ad 8), .int (nI st1_59)])), (ad 6, .inl (cL, 40, .inr (.inl ss))), (ad 7, .inl (cI, 10, .inl sv1_59)), (ad 8, .inl (cI, 10, .inl (xnI sr1_59)))] H := va_P.sub hB [0, 1, 2, 3] rfl
          rw [h5] at hF
          try dsimp only at hF
          have hg := growBy_ok h5 hst2 hsr2 (by omega)
          refine lv_iinc (k := 5) (v := (nI (i + 1))) (lv' := [(3, .int (nI (i + 1))), (5, .int (f_firstUnitClause nc mt mf avl gh2 gv2)), (4, .int (f_firstFalseClause nc mt mf avl gh2 gv2)), (0, .ref (ad 5)), (1, .int hv), (2, .int vl)]) hx hb dX0_nextSubset_62 hl rfl (xinc _) (by decide) rfl (fun ls hl => ?_)
          refine lv_goto (tgt := 17) hx hb dX0_nextSubset_65 (by decide) ?_
          exact ih (i + 1) gh1_59 gv1_59 sv1_59 sr1_59 st1_59 _ _ _ hF (by omega) hg.1 hg.2 hP hS (lv_sub hl [3, 4, 5, 0] rfl)
        · have hF := hF.trans (if_pos h4)
          refine lv_lconst (v := 0) hx hb dX0_nextSubset_54 (by decide) ?_
          exact W.lret (v := 0) hx hb hr (fun t ht hW => ⟨⟨_, (gh2, gv2, sv2, sr2, st2), rfl, hF, xBi ht hP⟩, hS.F ht⟩) hS.2.2 dX0_nextSubset_55
      · have hF := hF.trans (if_neg h3)
        have hq := ff_ok hnc h3
        refine lv_aload_n hx hb dX0_nextSubset_35 rfl (lv_at hl 1 rfl) ?_
        refine lv_iload hx hb dX0_nextSubset_36 (lv_at hl 0 rfl) ?_
        rw [← hq.1]
        have hR := xP0 hPr (xnA hinj [1, 2, 3, 4] rfl (by decide)) hS
        refine xro_l (va_runV (As := [.int (nI (f_firstFalseClause nc mt mf avl gh2 gv2).toNatClampNeg)]) (rest := []) ⟨hx, hb, hml, hown, hts⟩ (c_subsetBehind l dC dI cI cL cZ ad hinj nv av nc mt mf wt ss sc avl gh2 gv2 sv2 sr2 st2 ((f_firstFalseClause nc mt mf avl gh2 gv2).toNatClampNeg) (by omega) (by omega) hsr2) (xcwV 1 hts wd_278 wd_37 wd_275 wd_277 wd_6 rfl rfl (by decide +kernel) ⟨Nat.le_of_ble_eq_true rfl, Nat.le_of_ble_eq_true rfl⟩) (xpreV (va_recv hK hP rfl (q0 := 0) rfl) ((hR.app hP).sub [0, 1, 2, 3, 4, 5, 6, 7] rfl) hK) rfl rfl hl.1 rfl (lv_room (Nat.le_of_ble_eq_true rfl)) dX0_nextSubset_38 ⟨Nat.le_of_ble_eq_true rfl, Nat.le_of_ble_eq_true rfl⟩) hS (fun H locs hk hS => ?_)
        have hP := xkeep hP hk
        exact W.lret (v := (f_subsetBehind mt mf sv2 sr2 st2 ((f_firstFalseClause nc mt mf avl gh2 gv2).toNatClampNeg))) hx hb hr (fun t ht hW => ⟨⟨_, (gh2, gv2, sv2, sr2, st2), rfl, hF, xBi ht hP⟩, hS.F ht⟩) hS.2.2 dX0_nextSubset_41
  exact lp17 11 0 hv vl sv sr 0 _ _ _ hF (by omega) (by omega) (fun j h => absurd h (Nat.not_lt_zero _)) hP hS (lv_sub hl [1, 2, 3, 0] rfl)
