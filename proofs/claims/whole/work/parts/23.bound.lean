def f_boundOf_L (nc : Nat) (mt mf wt : Nat → Int32) (hv vl : Int32) : Nat → Nat → Int64 → (Nat → Int64) → Nat → Int64 → Int32 → Int32 → (Nat → Int32) → (Nat → Nat) → Nat → Int64 × (Nat → Int64) × Nat × Int64 × Int32 × Int32 × (Nat → Int32) × (Nat → Nat) × Nat
  | 0, i, tot, ss2, sc2, avl2, gh2, gv2, sv2, sr2, st2 =>
    (tot, (ss2, sc2, avl2, gh2, gv2, sv2, sr2, st2))
  | n + 1, i, tot, ss2, sc2, avl2, gh2, gv2, sv2, sr2, st2 =>
    match (f_nextSubset nc mt mf avl2 sv2 sr2 hv vl) with
    | (r_53, gh1_53, gv1_53, sv1_53, sr1_53, st1_53) =>
      if (lg_cmp r_53 0) = 0 then
        (tot, (ss2, sc2, avl2, gh1_53, gv1_53, sv1_53, sr1_53, st1_53))
      else
        if (f_lightestWeight nc wt r_53) = 0 then
          ((-2), ((vp_updL ss2 i r_53), (i + 1), avl2, gh1_53, gv1_53, sv1_53, sr1_53, st1_53))
        else
          f_boundOf_L nc mt mf wt hv vl n (i + 1) (tot + ((f_lightestWeight nc wt r_53).toInt64)) (vp_updL ss2 i r_53) (i + 1) (avl2 &&& (r_53 ^^^ (-1))) gh1_53 gv1_53 sv1_53 sr1_53 st1_53
def f_boundOf (nc : Nat) (mt mf wt : Nat → Int32) (ss : Nat → Int64) (sc : Nat) (avl : Int64) (gh gv : Int32) (sv : Nat → Int32) (sr : Nat → Nat) (st : Nat) (hv vl : Int32) : Int64 × (Nat → Int64) × Nat × Int64 × Int32 × Int32 × (Nat → Int32) × (Nat → Nat) × Nat :=
  if (lg_cmp (f_costOf nc mt mf wt hv vl) (-2)) = 0 then
    ((-2), (ss, 0, avl, gh, gv, sv, sr, st))
  else
    f_boundOf_L nc mt mf wt hv vl 40 0 (f_costOf nc mt mf wt hv vl) ss 0 (f_openClauses nc mt mf hv vl) gh gv sv sr st
set_option maxHeartbeats 4000000 in
set_option maxRecDepth 100000 in
theorem c_boundOf (l : Launch) (dC : Nat → ClassId) (dI : Nat → Nat → Nat) (cI cL cZ : ClassId) (ad : Nat → Nat) (hinj : xI ad 15) (nv : Nat) (av : Int32) (nc : Nat) (mt mf wt : Nat → Int32) (ss : Nat → Int64) (sc : Nat) (avl : Int64) (gh gv : Int32) (sv : Nat → Int32) (sr : Nat → Nat) (st : Nat) (hnc : nc ≤ 40) (hv vl : Int32) : Met l yX0_boundOf wsX0_boundOf ({ frames := 3, cells := 0, slots := 0, locals := 71 }) (va_Pc [.ref (ad 5), .int hv, .int vl] (fun U => va_P (dC, dI) vwCl [(ad 1, .inr (1, [.int (nI nv), .int av, .int (nI nc), .ref (ad 2), .ref (ad 3), .ref (ad 4)])), (ad 2, .inl (cI, 40, .inl mt)), (ad 3, .inl (cI, 40, .inl mf)), (ad 4, .inl (cI, 40, .inl wt)), (ad 5, .inr (0, [.ref (ad 1), .ref (ad 6), .int (nI sc), .long avl, .int gh, .int gv, .ref (ad 7), .ref (ad 8), .int (nI st)])), (ad 6, .inl (cL, 40, .inr (.inl ss))), (ad 7, .inl (cI, 10, .inl sv)), (ad 8, .inl (cI, 10, .inl (xnI sr)))] U.heap ∧ va_K (dC, dI) vwCl [(cI, .int), (cL, .long), (cZ, .boolean)] U)) (va_Ql (fun r u => f_boundOf nc mt mf wt ss sc avl gh gv sv sr st hv vl = (r, u)) (xB (dC, dI) vwCl (fun (u : (Nat → Int64) × Nat × Int64 × Int32 × Int32 × (Nat → Int32) × (Nat → Nat) × Nat) => match u with | (ss1, sc1, avl1, gh1, gv1, sv1, sr1, st1) => [(ad 5, .inr (0, [.ref (ad 1), .ref (ad 6), .int (nI sc1), .long avl1, .int gh1, .int gv1, .ref (ad 7), .ref (ad 8), .int (nI st1)])), (ad 6, .inl (cL, 40, .inr (.inl ss1))), (ad 7, .inl (cI, 10, .inl sv1)), (ad 8, .inl (cI, 10, .inl (xnI sr1)))])) (xA ad [5, 6, 7, 8])) 0 0 (xA ad [5, 6, 7, 8]) := by
  refine Met.ofW (cc := cX0_boundOf) (maxL := 9) (ret := (some .long)) (by decide) rfl ?_
  intro p e s m args below meth c s₁ B hml hvv
  obtain ⟨rfl, hP0, hK⟩ := hvv
  have hx := B.exec
  have hb := B.bytes
  have hr := B.returns
  have hts := atoms_spec (ws := wsX0_boundOf) B.pre
  have hown : s.vm.findClass RX0 = some m.cls := findClass_of_methodNamed B.named
  have hlocks := B.notSynchronized
  have hw0 : (.fieldLink RX0 26 "WeightedClauses$Bounds" "subsetCount" "I" : Cond).before _ s = true := hts _ (List.mem_cons_of_mem _ wd_100)
  have hw1 : (.fieldLink RX0 22 "WeightedClauses$Bounds" "formula" "LWeightedClauses$Formula;" : Cond).before _ s = true := hts _ (List.mem_cons_of_mem _ wd_98)
  have hw2 : (.constantLong RX0 36 (-2) : Cond).before _ s = true := hts _ (List.mem_cons_of_mem _ wd_249)
  have hw3 : (.fieldLink RX0 41 "WeightedClauses$Bounds" "available" "J" : Cond).before _ s = true := hts _ (List.mem_cons_of_mem _ wd_101)
  have hw4 : (.fieldLink RX0 9 "WeightedClauses$Bounds" "subsets" "[J" : Cond).before _ s = true := hts _ (List.mem_cons_of_mem _ wd_99)
  have hw5 : (.constantLong RX0 52 (-1) : Cond).before _ s = true := hts _ (List.mem_cons_of_mem _ wd_307)
  have hPr : va_P (dC, dI) vwCl [(ad 1, .inr (1, [.int (nI nv), .int av, .int (nI nc), .ref (ad 2), .ref (ad 3), .ref (ad 4)])), (ad 2, .inl (cI, 40, .inl mt)), (ad 3, .inl (cI, 40, .inl mf)), (ad 4, .inl (cI, 40, .inl wt))] s.heap := hP0.sub [0, 1, 2, 3] rfl
  have hP : va_P (dC, dI) vwCl [(ad 5, .inr (0, [.ref (ad 1), .ref (ad 6), .int (nI sc), .long avl, .int gh, .int gv, .ref (ad 7), .ref (ad 8), .int (nI st)])), (ad 6, .inl (cL, 40, .inr (.inl ss))), (ad 7, .inl (cI, 10, .inl sv)), (ad 8, .inl (cI, 10, .inl (xnI sr)))] s.heap := hP0.sub [4, 5, 6, 7] rfl
  have hS : va_S (xA ad [5, 6, 7, 8]) s.heap s.heap [] := va_S.rf
  have hl := lv_entry [.ref (ad 5), .int hv, .int vl] (n := 9) (Nat.le_of_ble_eq_true rfl)
  rw [lg_entry_eq]
  generalize (lg_sl [.ref (ad 5), .int hv, .int vl] ++ List.replicate (9 - (lg_sl [.ref (ad 5), .int hv, .int vl]).length) Slot.unset).toArray = ls at hl ⊢
  have hl : lv_has ls 9 [(0, .ref (ad 5)), (1, .int hv), (2, .int vl)] := hl
  have hF := Eq.refl (f_boundOf nc mt mf wt ss sc avl gh gv sv sr st hv vl)
  conv at hF => rhs; unfold f_boundOf
  refine lv_aload_n hx hb dX0_boundOf_0 rfl (lv_at hl 0 rfl) ?_
  refine lv_iconst (v := 0) hx hb dX0_boundOf_1 (by decide) ?_
  refine va_put (D := (dC, dI)) (ci := 0) (v := .int 0) (ty := .int) (C := RX0) (T := TX0) (N := 9) hx hb hts (xcons inX0) tyX0 tyX0_ok nX0 hown hK hP (xD hinj [5, 6, 7, 8] rfl (by decide) (by decide)) hS 0 rfl rfl 2 (by decide) hw0 (fun _ h9 => h9) rfl (by decide +kernel) rfl rfl (Nat.le_of_ble_eq_true rfl) dX0_boundOf_2 (fun H locs hP _ hS => ?_)
  have hP : va_P (dC, dI) vwCl [(ad 5, .inr (0, [.ref (ad 1), .ref (ad 6), .int 0, .long avl, .int gh, .int gv, .ref (ad 7), .ref (ad 8), .int (nI st)])), (ad 6, .inl (cL, 40, .inr (.inl ss))), (ad 7, .inl (cI, 10, .inl sv)), (ad 8, .inl (cI, 10, .inl (xnI sr)))] H := hP
  refine lv_aload_n hx hb dX0_boundOf_5 rfl (lv_at hl 0 rfl) ?_
  refine va_get (D := (dC, dI)) (ci := 0) (v := .ref (ad 1)) (C := RX0) (T := TX0) (N := 9) hx hb hts (xcons inX0) hown hK hP 0 rfl rfl 0 (by decide) hw1 (fun _ h9 => h9) rfl dX0_boundOf_6 ?_
  refine lv_iload_n hx hb dX0_boundOf_9 rfl (lv_at hl 1 rfl) ?_
  refine lv_iload_n hx hb dX0_boundOf_10 rfl (lv_at hl 2 rfl) ?_
  have hR := xP0 hPr (xnA hinj [1, 2, 3, 4] rfl (by decide)) hS
  refine xro_l (va_runV (As := [.int hv, .int vl]) (rest := []) ⟨hx, hb, hml, hown, hts⟩ (c_costOf l dC dI cI cL cZ ad hinj nv av nc mt mf wt (by omega) hv vl) (xcwV 2 hts wd_233 wd_35 wd_248 wd_231 wd_232 rfl rfl (by decide +kernel) ⟨Nat.le_of_ble_eq_true rfl, Nat.le_of_ble_eq_true rfl⟩) (xpreV (va_recv hK hR rfl (q0 := 0) rfl) hR hK) rfl rfl hl.1 rfl (lv_room (Nat.le_of_ble_eq_true rfl)) dX0_boundOf_11 ⟨Nat.le_of_ble_eq_true rfl, Nat.le_of_ble_eq_true rfl⟩) hS (fun H locs hk hS => ?_)
  have hP := xkeep hP hk
  refine lv_lstore_n (lv' := [(3, .long (f_costOf nc mt mf wt hv vl)), (0, .ref (ad 5)), (1, .int hv), (2, .int vl)]) hx hb dX0_boundOf_14 rfl hl (by decide) rfl (fun ls hl => ?_)
  refine lv_lload_n hx hb dX0_boundOf_15 rfl (lv_at hl 0 rfl) ?_
  refine lv_ldc2 hx hb hown hw2 dX0_boundOf_16 ?_
  refine W.lcmp hx hb dX0_boundOf_19 ?_
  refine lv_if_ne (tgt := 27) hx hb dX0_boundOf_20 (by decide) (fun h1 => ?_) (fun h1 => ?_)
  · have hF := hF.trans (if_neg h1)
    refine lv_aload_n hx hb dX0_boundOf_27 rfl (lv_at hl 1 rfl) ?_
    refine lv_aload_n hx hb dX0_boundOf_28 rfl (lv_at hl 1 rfl) ?_
    refine va_get (D := (dC, dI)) (ci := 0) (v := .ref (ad 1)) (C := RX0) (T := TX0) (N := 9) hx hb hts (xcons inX0) hown hK hP 0 rfl rfl 0 (by decide) hw1 (fun _ h9 => h9) rfl dX0_boundOf_29 ?_
    refine lv_iload_n hx hb dX0_boundOf_32 rfl (lv_at hl 2 rfl) ?_
    refine lv_iload_n hx hb dX0_boundOf_33 rfl (lv_at hl 3 rfl) ?_
    have hR := xP0 hPr (xnA hinj [1, 2, 3, 4] rfl (by decide)) hS
    refine xro_l (va_runV (As := [.int hv, .int vl]) (rest := [.ref (ad 5)]) ⟨hx, hb, hml, hown, hts⟩ (c_openClauses l dC dI cI cL cZ ad hinj nv av nc mt mf wt (by omega) hv vl) (xcwV 2 hts wd_253 wd_35 wd_250 wd_251 wd_252 rfl rfl (by decide +kernel) ⟨Nat.le_of_ble_eq_true rfl, Nat.le_of_ble_eq_true rfl⟩) (xpreV (va_recv hK hR rfl (q0 := 0) rfl) hR hK) rfl rfl hl.1 rfl (lv_room (Nat.le_of_ble_eq_true rfl)) dX0_boundOf_34 ⟨Nat.le_of_ble_eq_true rfl, Nat.le_of_ble_eq_true rfl⟩) hS (fun H locs hk hS => ?_)
    have hP := xkeep hP hk
    refine va_put (D := (dC, dI)) (ci := 0) (v := .long (f_openClauses nc mt mf hv vl)) (ty := .long) (C := RX0) (T := TX0) (N := 9) hx hb hts (xcons inX0) tyX0 tyX0_ok nX0 hown hK hP (xD hinj [5, 6, 7, 8] rfl (by decide) (by decide)) hS 0 rfl rfl 3 (by decide) hw3 (fun _ h9 => h9) rfl (by decide +kernel) rfl rfl (Nat.le_of_ble_eq_true rfl) dX0_boundOf_37 (fun H locs hP _ hS => ?_)
    have hP : va_P (dC, dI) vwCl [(ad 5, .inr (0, [.ref (ad 1), .ref (ad 6), .int 0, .long (f_openClauses nc mt mf hv vl), .int gh, .int gv, .ref (ad 7), .ref (ad 8), .int (nI st)])), (ad 6, .inl (cL, 40, .inr (.inl ss))), (ad 7, .inl (cI, 10, .inl sv)), (ad 8, .inl (cI, 10, .inl (xnI sr)))] H := hP
    refine lv_iconst (v := 0) hx hb dX0_boundOf_40 (by decide) ?_
    refine lv_istore (lv' := [(5, .int 0), (3, .long (f_costOf nc mt mf wt hv vl)), (0, .ref (ad 5)), (1, .int hv), (2, .int vl)]) hx hb dX0_boundOf_41 hl (by decide) rfl (fun ls hl => ?_)
    have lp43 : ∀ (n : Nat) (i : Nat) (tot : Int64) (ss2 : (Nat → Int64)) (sc2 : Nat) (avl2 : Int64) (gh2 : Int32) (gv2 : Int32) (sv2 : (Nat → Int32)) (sr2 : (Nat → Nat)) (st2 : Nat) (H : Heap) (locs : List Loc) (ls : Array Slot), f_boundOf nc mt mf wt ss sc avl gh gv sv sr st hv vl = f_boundOf_L nc mt mf wt hv vl n i tot ss2 sc2 avl2 gh2 gv2 sv2 sr2 st2 → i + n = 40 → sc2 ≤ 40 → va_P (dC, dI) vwCl [(ad 5, .inr (0, [.ref (ad 1), .ref (ad 6), .int (nI sc2), .long avl2, .int gh2, .int gv2, .ref (ad 7), .ref (ad 8), .int (nI st2)])), (ad 6, .inl (cL, 40, .inr (.inl ss2))), (ad 7, .inl (cI, 10, .inl sv2)), (ad 8, .inl (cI, 10, .inl (xnI sr2)))] H → va_S (xA ad [5, 6, 7, 8]) s.heap H locs → lv_has ls 9 [(0, .ref (ad 5)), (1, .int hv), (2, .int vl), (3, .long tot), (5, .int (nI i))] → W p l e (headSpec wsX0_boundOf ({ frames := 3, cells := 0, slots := 0, locals := 71 })).room s m [.ref (ad 5), .int hv, .int vl].toArray below meth c H locs 0 0 (MQ below (va_Ql (fun r u => f_boundOf nc mt mf wt ss sc avl gh gv sv sr st hv vl = (r, u)) (xB (dC, dI) vwCl (fun (u : (Nat → Int64) × Nat × Int64 × Int32 × Int32 × (Nat → Int32) × (Nat → Nat) × Nat) => match u with | (ss1, sc1, avl1, gh1, gv1, sv1, sr1, st1) => [(ad 5, .inr (0, [.ref (ad 1), .ref (ad 6), .int (nI sc1), .long avl1, .int gh1, .int gv1, .ref (ad 7), .ref (ad 8), .int (nI st1)])), (ad 6, .inl (cL, 40, .inr (.inl ss1))), (ad 7, .inl (cI, 10, .inl sv1)), (ad 8, .inl (cI, 10, .inl (xnI sr1)))])) (xA ad [5, 6, 7, 8])) [.ref (ad 5), .int hv, .int vl].toArray s 0 0 (xA ad [5, 6, 7, 8])) (F0 m 43 ls []) := by
      intro n
      induction n with
      | zero =>
        intro i tot ss2 sc2 avl2 gh2 gv2 sv2 sr2 st2 H locs ls hF hil hsc2 hP hS hl
        rw [f_boundOf_L] at hF
        refine lv_iload hx hb dX0_boundOf_43 (lv_at hl 4 rfl) ?_
        refine lv_bipush (v := 40) hx hb dX0_boundOf_45 (by decide) ?_
        refine lv_icmp_ge (tgt := 131) hx hb dX0_boundOf_47 (by decide) (fun h2 => ?_) (fun h2 => absurd (nI_le (a := 40) (by omega) (by omega)) h2)
        refine lv_lload_n hx hb dX0_boundOf_131 rfl (lv_at hl 3 rfl) ?_
        exact W.lret (v := tot) hx hb hr (fun t ht hW => ⟨⟨_, (ss2, sc2, avl2, gh2, gv2, sv2, sr2, st2), rfl, hF, xBi ht hP⟩, hS.F ht⟩) hS.2.2 dX0_boundOf_132
      | succ n ih =>
        intro i tot ss2 sc2 avl2 gh2 gv2 sv2 sr2 st2 H locs ls hF hil hsc2 hP hS hl
        rw [f_boundOf_L] at hF
        refine lv_iload hx hb dX0_boundOf_43 (lv_at hl 4 rfl) ?_
        refine lv_bipush (v := 40) hx hb dX0_boundOf_45 (by decide) ?_
        refine lv_icmp_ge (tgt := 131) hx hb dX0_boundOf_47 (by decide) (fun h3 => absurd h3 (nI_ge (a := i) (b := 40) (by omega) (by decide))) (fun h3 => ?_)
        refine lv_aload_n hx hb dX0_boundOf_50 rfl (lv_at hl 0 rfl) ?_
        refine lv_iload_n hx hb dX0_boundOf_51 rfl (lv_at hl 1 rfl) ?_
        refine lv_iload_n hx hb dX0_boundOf_52 rfl (lv_at hl 2 rfl) ?_
        have hR := xP0 hPr (xnA hinj [1, 2, 3, 4] rfl (by decide)) hS
        refine xrw_l (va_runV (As := [.int hv, .int vl]) (rest := []) ⟨hx, hb, hml, hown, hts⟩ (c_nextSubset l dC dI cI cL cZ ad hinj nv av nc mt mf wt ss2 sc2 avl2 gh2 gv2 sv2 sr2 st2 (by omega) hv vl) (xcwV 2 hts wd_265 wd_37 wd_262 wd_264 wd_3 rfl rfl (by decide +kernel) ⟨Nat.le_of_ble_eq_true rfl, Nat.le_of_ble_eq_true rfl⟩) (xpreV (va_recv hK hP rfl (q0 := 0) rfl) ((hR.app hP).sub [0, 1, 2, 3, 4, 5, 6, 7] rfl) hK) rfl rfl hl.1 rfl (lv_room (Nat.le_of_ble_eq_true rfl)) dX0_boundOf_53 ⟨Nat.le_of_ble_eq_true rfl, Nat.le_of_ble_eq_true rfl⟩) hS (xAsub (by decide)) (fun r_53 u H locs h4 hB hk hS => ?_)
        obtain ⟨gh1_53, gv1_53, sv1_53, sr1_53, st1_53⟩ := u
        have hP : va_P (dC, dI) vwCl [(ad 5, .inr (0, [.ref (ad 1), .ref (ad 6), .int (nI sc2), .long avl2, .int gh1_53, .int gv1_53, .ref (ad 7), .ref (ad 8), .int (nI st1_53)])), (ad 6, .inl (cL, 40, .inr (.inl ss2))), (ad 7, .inl (cI, 10, .inl sv1_53)), (ad 8, .inl (cI, 10, .inl (xnI sr1_53)))] H := va_P.sub hB [0, 1, 2, 3] rfl
        rw [h4] at hF
        try dsimp only at hF
        refine lv_lstore (lv' := [(6, .long r_53), (0, .ref (ad 5)), (1, .int hv), (2, .int vl), (3, .long tot), (5, .int (nI i))]) hx hb dX0_boundOf_56 hl (by decide) rfl (fun ls hl => ?_)
        refine lv_lload hx hb dX0_boundOf_58 (lv_at hl 0 rfl) ?_
        refine lv_lconst (v := 0) hx hb dX0_boundOf_60 (by decide) ?_
        refine W.lcmp hx hb dX0_boundOf_61 ?_
        refine lv_if_ne (tgt := 67) hx hb dX0_boundOf_62 (by decide) (fun h5 => ?_) (fun h5 => ?_)
        · have hF := hF.trans (if_neg h5)
          refine lv_aload_n hx hb dX0_boundOf_67 rfl (lv_at hl 1 rfl) ?_
          refine va_get (D := (dC, dI)) (ci := 0) (v := .ref (ad 6)) (C := RX0) (T := TX0) (N := 9) hx hb hts (xcons inX0) hown hK hP 0 rfl rfl 1 (by decide) hw4 (fun _ h9 => h9) rfl dX0_boundOf_68 ?_
          refine lv_iload hx hb dX0_boundOf_71 (lv_at hl 5 rfl) ?_
          refine lv_lload hx hb dX0_boundOf_73 (lv_at hl 0 rfl) ?_
          refine xr_last hx hb hK hP (xD hinj [5, 6, 7, 8] rfl (by decide) (by decide)) hS 1 1 rfl rfl i (by omega) (by omega) dX0_boundOf_75 (fun H locs hP hS => ?_)
          have hP : va_P (dC, dI) vwCl [(ad 5, .inr (0, [.ref (ad 1), .ref (ad 6), .int (nI sc2), .long avl2, .int gh1_53, .int gv1_53, .ref (ad 7), .ref (ad 8), .int (nI st1_53)])), (ad 6, .inl (cL, 40, .inr (.inl (vp_updL ss2 i r_53)))), (ad 7, .inl (cI, 10, .inl sv1_53)), (ad 8, .inl (cI, 10, .inl (xnI sr1_53)))] H := hP
          refine lv_aload_n hx hb dX0_boundOf_76 rfl (lv_at hl 1 rfl) ?_
          refine lv_iload hx hb dX0_boundOf_77 (lv_at hl 5 rfl) ?_
          refine lv_iconst (v := 1) hx hb dX0_boundOf_79 (by decide) ?_
          refine xr_add1 hx hb dX0_boundOf_80 ?_
          refine va_put (D := (dC, dI)) (ci := 0) (v := .int (nI (i + 1))) (ty := .int) (C := RX0) (T := TX0) (N := 9) hx hb hts (xcons inX0) tyX0 tyX0_ok nX0 hown hK hP (xD hinj [5, 6, 7, 8] rfl (by decide) (by decide)) hS 0 rfl rfl 2 (by decide) hw0 (fun _ h9 => h9) rfl (by decide +kernel) rfl rfl (Nat.le_of_ble_eq_true rfl) dX0_boundOf_81 (fun H locs hP _ hS => ?_)
          have hP : va_P (dC, dI) vwCl [(ad 5, .inr (0, [.ref (ad 1), .ref (ad 6), .int (nI (i + 1)), .long avl2, .int gh1_53, .int gv1_53, .ref (ad 7), .ref (ad 8), .int (nI st1_53)])), (ad 6, .inl (cL, 40, .inr (.inl (vp_updL ss2 i r_53)))), (ad 7, .inl (cI, 10, .inl sv1_53)), (ad 8, .inl (cI, 10, .inl (xnI sr1_53)))] H := hP
          refine lv_aload_n hx hb dX0_boundOf_84 rfl (lv_at hl 1 rfl) ?_
          refine va_get (D := (dC, dI)) (ci := 0) (v := .ref (ad 1)) (C := RX0) (T := TX0) (N := 9) hx hb hts (xcons inX0) hown hK hP 0 rfl rfl 0 (by decide) hw1 (fun _ h9 => h9) rfl dX0_boundOf_85 ?_
          refine lv_lload hx hb dX0_boundOf_88 (lv_at hl 0 rfl) ?_
          have hR := xP0 hPr (xnA hinj [1, 2, 3, 4] rfl (by decide)) hS
          refine xro_i (va_runV (As := [.long r_53]) (rest := []) ⟨hx, hb, hml, hown, hts⟩ (c_lightestWeight l dC dI cI cL cZ ad hinj nv av nc mt mf wt (by omega) r_53) (xcwV 1 hts wd_306 wd_35 wd_303 wd_304 wd_305 rfl rfl (by decide +kernel) ⟨Nat.le_of_ble_eq_true rfl, Nat.le_of_ble_eq_true rfl⟩) (xpreV (va_recv hK hR rfl (q0 := 0) rfl) hR hK) rfl rfl hl.1 rfl (lv_room (Nat.le_of_ble_eq_true rfl)) dX0_boundOf_90 ⟨Nat.le_of_ble_eq_true rfl, Nat.le_of_ble_eq_true rfl⟩) hS (fun H locs hk hS => ?_)
          have hP := xkeep hP hk
          refine lv_istore (lv' := [(8, .int (f_lightestWeight nc wt r_53)), (6, .long r_53), (0, .ref (ad 5)), (1, .int hv), (2, .int vl), (3, .long tot), (5, .int (nI i))]) hx hb dX0_boundOf_93 hl (by decide) rfl (fun ls hl => ?_)
          refine lv_iload hx hb dX0_boundOf_95 (lv_at hl 0 rfl) ?_
          refine lv_if_ne (tgt := 104) hx hb dX0_boundOf_97 (by decide) (fun h6 => ?_) (fun h6 => ?_)
          · have hF := hF.trans (if_neg h6)
            refine lv_lload_n hx hb dX0_boundOf_104 rfl (lv_at hl 5 rfl) ?_
            refine lv_iload hx hb dX0_boundOf_105 (lv_at hl 0 rfl) ?_
            refine lv_i2l (v := (f_lightestWeight nc wt r_53).toInt64) hx hb dX0_boundOf_107 rfl ?_
            refine lv_ladd hx hb dX0_boundOf_108 ?_
            refine lv_lstore_n (lv' := [(3, .long (tot + ((f_lightestWeight nc wt r_53).toInt64))), (8, .int (f_lightestWeight nc wt r_53)), (6, .long r_53), (0, .ref (ad 5)), (1, .int hv), (2, .int vl), (5, .int (nI i))]) hx hb dX0_boundOf_109 rfl hl (by decide) rfl (fun ls hl => ?_)
            refine lv_aload_n hx hb dX0_boundOf_110 rfl (lv_at hl 3 rfl) ?_
            refine lv_dup hx hb dX0_boundOf_111 rfl ?_
            refine va_get (D := (dC, dI)) (ci := 0) (v := .long avl2) (C := RX0) (T := TX0) (N := 9) hx hb hts (xcons inX0) hown hK hP 0 rfl rfl 3 (by decide) hw3 (fun _ h9 => h9) rfl dX0_boundOf_112 ?_
            refine lv_lload hx hb dX0_boundOf_115 (lv_at hl 2 rfl) ?_
            refine lv_ldc2 hx hb hown hw5 dX0_boundOf_117 ?_
            refine lv_lxor hx hb dX0_boundOf_120 ?_
            refine lv_land hx hb dX0_boundOf_121 ?_
            refine va_put (D := (dC, dI)) (ci := 0) (v := .long (avl2 &&& (r_53 ^^^ (-1)))) (ty := .long) (C := RX0) (T := TX0) (N := 9) hx hb hts (xcons inX0) tyX0 tyX0_ok nX0 hown hK hP (xD hinj [5, 6, 7, 8] rfl (by decide) (by decide)) hS 0 rfl rfl 3 (by decide) hw3 (fun _ h9 => h9) rfl (by decide +kernel) rfl rfl (Nat.le_of_ble_eq_true rfl) dX0_boundOf_122 (fun H locs hP _ hS => ?_)
            have hP : va_P (dC, dI) vwCl [(ad 5, .inr (0, [.ref (ad 1), .ref (ad 6), .int (nI (i + 1)), .long (avl2 &&& (r_53 ^^^ (-1))), .int gh1_53, .int gv1_53, .ref (ad 7), .ref (ad 8), .int (nI st1_53)])), (ad 6, .inl (cL, 40, .inr (.inl (vp_updL ss2 i r_53)))), (ad 7, .inl (cI, 10, .inl sv1_53)), (ad 8, .inl (cI, 10, .inl (xnI sr1_53)))] H := hP
            refine lv_iinc (k := 6) (v := (nI (i + 1))) (lv' := [(5, .int (nI (i + 1))), (3, .long (tot + ((f_lightestWeight nc wt r_53).toInt64))), (8, .int (f_lightestWeight nc wt r_53)), (6, .long r_53), (0, .ref (ad 5)), (1, .int hv), (2, .int vl)]) hx hb dX0_boundOf_125 hl rfl (xinc _) (by decide) rfl (fun ls hl => ?_)
            refine lv_goto (tgt := 43) hx hb dX0_boundOf_128 (by decide) ?_
            exact ih (i + 1) (tot + ((f_lightestWeight nc wt r_53).toInt64)) (vp_updL ss2 i r_53) (i + 1) (avl2 &&& (r_53 ^^^ (-1))) gh1_53 gv1_53 sv1_53 sr1_53 st1_53 _ _ _ hF (by omega) (by omega) hP hS (lv_sub hl [4, 5, 6, 1, 0] rfl)
          · have hF := hF.trans (if_pos h6)
            refine lv_ldc2 hx hb hown hw2 dX0_boundOf_100 ?_
            exact W.lret (v := (-2)) hx hb hr (fun t ht hW => ⟨⟨_, ((vp_updL ss2 i r_53), (i + 1), avl2, gh1_53, gv1_53, sv1_53, sr1_53, st1_53), rfl, hF, xBi ht hP⟩, hS.F ht⟩) hS.2.2 dX0_boundOf_103
        · have hF := hF.trans (if_pos h5)
          refine lv_lload_n hx hb dX0_boundOf_65 rfl (lv_at hl 4 rfl) ?_
          exact W.lret (v := tot) hx hb hr (fun t ht hW => ⟨⟨_, (ss2, sc2, avl2, gh1_53, gv1_53, sv1_53, sr1_53, st1_53), rfl, hF, xBi ht hP⟩, hS.F ht⟩) hS.2.2 dX0_boundOf_66
    exact lp43 40 0 (f_costOf nc mt mf wt hv vl) ss 0 (f_openClauses nc mt mf hv vl) gh gv sv sr st _ _ _ hF (by omega) (by omega) hP hS (lv_sub hl [2, 3, 4, 1, 0] rfl)
  · have hF := hF.trans (if_pos h1)
    refine lv_ldc2 hx hb hown hw2 dX0_boundOf_23 ?_
    exact W.lret (v := (-2)) hx hb hr (fun t ht hW => ⟨⟨_, (ss, 0, avl, gh, gv, sv, sr, st), rfl, hF, xBi ht hP⟩, hS.F ht⟩) hS.2.2 dX0_boundOf_26
