def f_run_L (nv : Nat) (av : Int32) (nc : Nat) (mt mf wt : Nat → Int32) (lz : Nat) : Nat → Nat → (Nat → Int64) → Nat → Int64 → Int32 → Int32 → (Nat → Int32) → (Nat → Nat) → Nat → Int32 → Nat → Int64 → Int32 → (Nat → Int32) → (Nat → Int32) → (Nat → Int64) → (Nat → Int32) → (Nat → Int32) → Nat → (Nat → Int64) × Nat × Int64 × Int32 × Int32 × (Nat → Int32) × (Nat → Nat) × Nat × Int32 × Nat × Int64 × Int32 × (Nat → Int32) × (Nat → Int32) × (Nat → Int64) × (Nat → Int32) × (Nat → Int32) × Nat
  | 0, i, ss2, sc2, avl2, gh2, gv2, sv2, sr2, st2, nd2, lc2, bc2, bv2, lh2, lw2, lb2, wh2, wv2, wc2 =>
    (ss2, sc2, avl2, gh2, gv2, sv2, sr2, st2, nd2, lc2, bc2, bv2, lh2, lw2, lb2, wh2, wv2, wc2)
  | n + 1, i, ss2, sc2, avl2, gh2, gv2, sv2, sr2, st2, nd2, lc2, bc2, bv2, lh2, lw2, lb2, wh2, wv2, wc2 =>
    if (nI wc2) ≤ 0 then
      (ss2, sc2, avl2, gh2, gv2, sv2, sr2, st2, nd2, lc2, bc2, bv2, lh2, lw2, lb2, wh2, wv2, wc2)
    else
      match (f_visit nv av nc mt mf wt lz ss2 sc2 avl2 gh2 gv2 sv2 sr2 st2 nd2 lc2 bc2 bv2 lh2 lw2 lb2 wh2 wv2 (wc2 - 1) (wh2 (wc2 - 1)) (wv2 (wc2 - 1))) with
      | (ss1_55, sc1_55, avl1_55, gh1_55, gv1_55, sv1_55, sr1_55, st1_55, nd1_55, lc1_55, bc1_55, bv1_55, lh1_55, lw1_55, lb1_55, wh1_55, wv1_55, wc1_55) =>
        f_run_L nv av nc mt mf wt lz n (i + 1) ss1_55 sc1_55 avl1_55 gh1_55 gv1_55 sv1_55 sr1_55 st1_55 nd1_55 lc1_55 bc1_55 bv1_55 lh1_55 lw1_55 lb1_55 wh1_55 wv1_55 wc1_55
def f_run (nv : Nat) (av : Int32) (nc : Nat) (mt mf wt : Nat → Int32) (lz : Nat) (ss : (Nat → Int64)) (sc : Nat) (avl : Int64) (gh : Int32) (gv : Int32) (sv : (Nat → Int32)) (sr : (Nat → Nat)) (st : Nat) (nd : Int32) (lc : Nat) (bc : Int64) (bv : Int32) (lh : (Nat → Int32)) (lw : (Nat → Int32)) (lb : (Nat → Int64)) (wh : (Nat → Int32)) (wv : (Nat → Int32)) (wc : Nat) : (Nat → Int64) × Nat × Int64 × Int32 × Int32 × (Nat → Int32) × (Nat → Nat) × Nat × Int32 × Nat × Int64 × Int32 × (Nat → Int32) × (Nat → Int32) × (Nat → Int64) × (Nat → Int32) × (Nat → Int32) × Nat :=
  match f_forget with
  | (nd1_1, lc1_1, bc1_1, bv1_1, wc1_1) =>
    match (f_putWaiting wh wv wc1_1 0 0) with
    | (wh1_7, wv1_7, wc1_7) =>
      f_run_L nv av nc mt mf wt lz 2048 0 ss sc avl gh gv sv sr st nd1_1 lc1_1 bc1_1 bv1_1 lh lw lb wh1_7 wv1_7 wc1_7
set_option maxHeartbeats 4000000 in
set_option maxRecDepth 100000 in
theorem c_run (l : Launch) (dC : Nat → ClassId) (dI : Nat → Nat → Nat) (cI cL cZ : ClassId) (ad : Nat → Nat) (hinj : xI ad 15) (nv : Nat) (av : Int32) (nc : Nat) (mt mf wt : Nat → Int32) (ss : Nat → Int64) (sc : Nat) (avl : Int64) (gh gv : Int32) (sv : Nat → Int32) (sr : Nat → Nat) (st : Nat) (lz : Nat) (nd : Int32) (lc : Nat) (bc : Int64) (bv : Int32) (lh lw : Nat → Int32) (lb : Nat → Int64) (wh wv : Nat → Int32) (wc : Nat) (hnc : nc ≤ 40) (hnv : nv ≤ 10) (hlz : lz ≤ 512) (hlc : lc ≤ lz) (hwc : wc ≤ 11) : Met l yX2_run wsX2_run ({ frames := 5, cells := 0, slots := 0, locals := 125 }) (va_Pc [.ref (ad 9)] (fun U => va_P (dC, dI) vwCl [(ad 1, .inr (1, [.int (nI nv), .int av, .int (nI nc), .ref (ad 2), .ref (ad 3), .ref (ad 4)])), (ad 2, .inl (cI, 40, .inl mt)), (ad 3, .inl (cI, 40, .inl mf)), (ad 4, .inl (cI, 40, .inl wt)), (ad 5, .inr (0, [.ref (ad 1), .ref (ad 6), .int (nI sc), .long avl, .int gh, .int gv, .ref (ad 7), .ref (ad 8), .int (nI st)])), (ad 6, .inl (cL, 40, .inr (.inl ss))), (ad 7, .inl (cI, 10, .inl sv)), (ad 8, .inl (cI, 10, .inl (xnI sr))), (ad 9, .inr (2, [.int nd, .int (nI lc), .long bc, .int bv, .ref (ad 10), .ref (ad 11), .ref (ad 12), .ref (ad 1), .ref (ad 5), .ref (ad 13), .ref (ad 14), .int (nI wc)])), (ad 10, .inl (cI, lz, .inl lh)), (ad 11, .inl (cI, lz, .inl lw)), (ad 12, .inl (cL, lz, .inr (.inl lb))), (ad 13, .inl (cI, 11, .inl wh)), (ad 14, .inl (cI, 11, .inl wv))] U.heap ∧ va_K (dC, dI) vwCl [(cI, .int), (cL, .long), (cZ, .boolean)] U)) (va_Qv (fun u => f_run nv av nc mt mf wt lz ss sc avl gh gv sv sr st nd lc bc bv lh lw lb wh wv wc = u) (xB (dC, dI) vwCl (fun (u : (Nat → Int64) × Nat × Int64 × Int32 × Int32 × (Nat → Int32) × (Nat → Nat) × Nat × Int32 × Nat × Int64 × Int32 × (Nat → Int32) × (Nat → Int32) × (Nat → Int64) × (Nat → Int32) × (Nat → Int32) × Nat) => match u with | (ss1, sc1, avl1, gh1, gv1, sv1, sr1, st1, nd1, lc1, bc1, bv1, lh1, lw1, lb1, wh1, wv1, wc1) => [(ad 5, .inr (0, [.ref (ad 1), .ref (ad 6), .int (nI sc1), .long avl1, .int gh1, .int gv1, .ref (ad 7), .ref (ad 8), .int (nI st1)])), (ad 6, .inl (cL, 40, .inr (.inl ss1))), (ad 7, .inl (cI, 10, .inl sv1)), (ad 8, .inl (cI, 10, .inl (xnI sr1))), (ad 9, .inr (2, [.int nd1, .int (nI lc1), .long bc1, .int bv1, .ref (ad 10), .ref (ad 11), .ref (ad 12), .ref (ad 1), .ref (ad 5), .ref (ad 13), .ref (ad 14), .int (nI wc1)])), (ad 10, .inl (cI, lz, .inl lh1)), (ad 11, .inl (cI, lz, .inl lw1)), (ad 12, .inl (cL, lz, .inr (.inl lb1))), (ad 13, .inl (cI, 11, .inl wh1)), (ad 14, .inl (cI, 11, .inl wv1))])) (xA ad [5, 6, 7, 8, 9, 10, 11, 12, 13, 14])) 0 0 (xA ad [5, 6, 7, 8, 9, 10, 11, 12, 13, 14]) := by
  refine Met.ofW (cc := cX2_run) (maxL := 2) (ret := none) (by decide) rfl ?_
  intro p e s m args below meth c s₁ B hml hvv
  obtain ⟨rfl, hP0, hK⟩ := hvv
  have hx := B.exec
  have hb := B.bytes
  have hr := B.returns
  have hts := atoms_spec (ws := wsX2_run) B.pre
  have hown : s.vm.findClass RX2 = some m.cls := findClass_of_methodNamed B.named
  have hlocks := B.notSynchronized
  have hw0 : (.fieldLink RX2 57 "WeightedClauses$Search" "waitingCount" "I" : Cond).before _ s = true := hts _ (List.mem_cons_of_mem _ wd_152)
  have hw1 : (.fieldLink RX2 17 "WeightedClauses$Search" "waitingHave" "[I" : Cond).before _ s = true := hts _ (List.mem_cons_of_mem _ wd_150)
  have hw2 : (.fieldLink RX2 21 "WeightedClauses$Search" "waitingValues" "[I" : Cond).before _ s = true := hts _ (List.mem_cons_of_mem _ wd_151)
  have hPr : va_P (dC, dI) vwCl [(ad 1, .inr (1, [.int (nI nv), .int av, .int (nI nc), .ref (ad 2), .ref (ad 3), .ref (ad 4)])), (ad 2, .inl (cI, 40, .inl mt)), (ad 3, .inl (cI, 40, .inl mf)), (ad 4, .inl (cI, 40, .inl wt))] s.heap := hP0.sub [0, 1, 2, 3] rfl
  have hP : va_P (dC, dI) vwCl [(ad 5, .inr (0, [.ref (ad 1), .ref (ad 6), .int (nI sc), .long avl, .int gh, .int gv, .ref (ad 7), .ref (ad 8), .int (nI st)])), (ad 6, .inl (cL, 40, .inr (.inl ss))), (ad 7, .inl (cI, 10, .inl sv)), (ad 8, .inl (cI, 10, .inl (xnI sr))), (ad 9, .inr (2, [.int nd, .int (nI lc), .long bc, .int bv, .ref (ad 10), .ref (ad 11), .ref (ad 12), .ref (ad 1), .ref (ad 5), .ref (ad 13), .ref (ad 14), .int (nI wc)])), (ad 10, .inl (cI, lz, .inl lh)), (ad 11, .inl (cI, lz, .inl lw)), (ad 12, .inl (cL, lz, .inr (.inl lb))), (ad 13, .inl (cI, 11, .inl wh)), (ad 14, .inl (cI, 11, .inl wv))] s.heap := hP0.sub [4, 5, 6, 7, 8, 9, 10, 11, 12, 13] rfl
  have hS : va_S (xA ad [5, 6, 7, 8, 9, 10, 11, 12, 13, 14]) s.heap s.heap [] := va_S.rf
  have hl := lv_entry [.ref (ad 9)] (n := 2) (Nat.le_of_ble_eq_true rfl)
  rw [lg_entry_eq]
  generalize (lg_sl [.ref (ad 9)] ++ List.replicate (2 - (lg_sl [.ref (ad 9)]).length) Slot.unset).toArray = ls at hl ⊢
  have hl : lv_has ls 2 [(0, .ref (ad 9))] := hl
  have hF := Eq.refl (f_run nv av nc mt mf wt lz ss sc avl gh gv sv sr st nd lc bc bv lh lw lb wh wv wc)
  conv at hF => rhs; unfold f_run
  refine lv_aload_n hx hb dX2_run_0 rfl (lv_at hl 0 rfl) ?_
  have hR := xP0 hPr (xnA hinj [1, 2, 3, 4] rfl (by decide)) hS
  refine xrw_v (va_runV (As := []) (rest := []) ⟨hx, hb, hml, hown, hts⟩ (c_forget l dC dI cI cL cZ ad hinj lz nd lc bc bv lh lw lb wh wv wc) (xcwV 0 hts wd_199 wd_38 wd_217 wd_197 wd_198 rfl rfl (by decide +kernel) ⟨Nat.le_of_ble_eq_true rfl, Nat.le_of_ble_eq_true rfl⟩) (xpreV (va_recv hK hP rfl (q0 := 4) rfl) (hP.sub [4, 5, 6, 7, 8, 9] rfl) hK) rfl rfl hl.1 rfl (lv_room (Nat.le_of_ble_eq_true rfl)) dX2_run_1 ⟨Nat.le_of_ble_eq_true rfl, Nat.le_of_ble_eq_true rfl⟩) hS (xAsub (by decide)) (fun u H locs h1 hB hk hS => ?_)
  obtain ⟨nd1_1, lc1_1, bc1_1, bv1_1, wc1_1⟩ := u
  have hP : va_P (dC, dI) vwCl [(ad 5, .inr (0, [.ref (ad 1), .ref (ad 6), .int (nI sc), .long avl, .int gh, .int gv, .ref (ad 7), .ref (ad 8), .int (nI st)])), (ad 6, .inl (cL, 40, .inr (.inl ss))), (ad 7, .inl (cI, 10, .inl sv)), (ad 8, .inl (cI, 10, .inl (xnI sr))), (ad 9, .inr (2, [.int nd1_1, .int (nI lc1_1), .long bc1_1, .int bv1_1, .ref (ad 10), .ref (ad 11), .ref (ad 12), .ref (ad 1), .ref (ad 5), .ref (ad 13), .ref (ad 14), .int (nI wc1_1)])), (ad 10, .inl (cI, lz, .inl lh)), (ad 11, .inl (cI, lz, .inl lw)), (ad 12, .inl (cL, lz, .inr (.inl lb))), (ad 13, .inl (cI, 11, .inl wh)), (ad 14, .inl (cI, 11, .inl wv))] H := ((xkeepA hP hk [0, 1, 2, 3] rfl (xnA hinj [5, 6, 7, 8] rfl (by decide))).app hB).sub [0, 1, 2, 3, 4, 5, 6, 7, 8, 9] rfl
  rw [h1] at hF
  try dsimp only at hF
  obtain ⟨hq1, hq2, hq3, hq4, hq5⟩ := forget_eq h1
  refine lv_aload_n hx hb dX2_run_4 rfl (lv_at hl 0 rfl) ?_
  refine lv_iconst (v := 0) hx hb dX2_run_5 (by decide) ?_
  refine lv_iconst (v := 0) hx hb dX2_run_6 (by decide) ?_
  have hR := xP0 hPr (xnA hinj [1, 2, 3, 4] rfl (by decide)) hS
  refine xrw_v (va_runV (As := [.int 0, .int 0]) (rest := []) ⟨hx, hb, hml, hown, hts⟩ (c_putWaiting l dC dI cI cL cZ ad hinj lz nd1_1 lc1_1 bc1_1 bv1_1 lh lw lb wh wv wc1_1 (by omega) 0 0) (xcwV 2 hts wd_221 wd_38 wd_218 wd_220 wd_0 rfl rfl (by decide +kernel) ⟨Nat.le_of_ble_eq_true rfl, Nat.le_of_ble_eq_true rfl⟩) (xpreV (va_recv hK hP rfl (q0 := 4) rfl) (hP.sub [4, 5, 6, 7, 8, 9] rfl) hK) rfl rfl hl.1 rfl (lv_room (Nat.le_of_ble_eq_true rfl)) dX2_run_7 ⟨Nat.le_of_ble_eq_true rfl, Nat.le_of_ble_eq_true rfl⟩) hS (xAsub (by decide)) (fun u H locs h2 hB hk hS => ?_)
  obtain ⟨wh1_7, wv1_7, wc1_7⟩ := u
  have hP : va_P (dC, dI) vwCl [(ad 5, .inr (0, [.ref (ad 1), .ref (ad 6), .int (nI sc), .long avl, .int gh, .int gv, .ref (ad 7), .ref (ad 8), .int (nI st)])), (ad 6, .inl (cL, 40, .inr (.inl ss))), (ad 7, .inl (cI, 10, .inl sv)), (ad 8, .inl (cI, 10, .inl (xnI sr))), (ad 9, .inr (2, [.int nd1_1, .int (nI lc1_1), .long bc1_1, .int bv1_1, .ref (ad 10), .ref (ad 11), .ref (ad 12), .ref (ad 1), .ref (ad 5), .ref (ad 13), .ref (ad 14), .int (nI wc1_7)])), (ad 10, .inl (cI, lz, .inl lh)), (ad 11, .inl (cI, lz, .inl lw)), (ad 12, .inl (cL, lz, .inr (.inl lb))), (ad 13, .inl (cI, 11, .inl wh1_7)), (ad 14, .inl (cI, 11, .inl wv1_7))] H := ((xkeepA hP hk [0, 1, 2, 3] rfl (xnA hinj [5, 6, 7, 8] rfl (by decide))).app hB).sub [0, 1, 2, 3, 4, 5, 6, 7, 8, 9] rfl
  rw [h2] at hF
  try dsimp only at hF
  have hwc1 := putWaiting_ok h2 (by omega)
  refine lv_iconst (v := 0) hx hb dX2_run_10 (by decide) ?_
  refine lv_istore_n (lv' := [(1, .int 0), (0, .ref (ad 9))]) hx hb dX2_run_11 rfl hl (by decide) rfl (fun ls hl => ?_)
  have lp12 : ∀ (n : Nat) (i : Nat) (ss2 : (Nat → Int64)) (sc2 : Nat) (avl2 : Int64) (gh2 : Int32) (gv2 : Int32) (sv2 : (Nat → Int32)) (sr2 : (Nat → Nat)) (st2 : Nat) (nd2 : Int32) (lc2 : Nat) (bc2 : Int64) (bv2 : Int32) (lh2 : (Nat → Int32)) (lw2 : (Nat → Int32)) (lb2 : (Nat → Int64)) (wh2 : (Nat → Int32)) (wv2 : (Nat → Int32)) (wc2 : Nat) (H : Heap) (locs : List Loc) (ls : Array Slot), f_run nv av nc mt mf wt lz ss sc avl gh gv sv sr st nd lc bc bv lh lw lb wh wv wc = f_run_L nv av nc mt mf wt lz n i ss2 sc2 avl2 gh2 gv2 sv2 sr2 st2 nd2 lc2 bc2 bv2 lh2 lw2 lb2 wh2 wv2 wc2 → i + n = 2048 → lc2 ≤ lz → wc2 ≤ 11 → va_P (dC, dI) vwCl [(ad 5, .inr (0, [.ref (ad 1), .ref (ad 6), .int (nI sc2), .long avl2, .int gh2, .int gv2, .ref (ad 7), .ref (ad 8), .int (nI st2)])), (ad 6, .inl (cL, 40, .inr (.inl ss2))), (ad 7, .inl (cI, 10, .inl sv2)), (ad 8, .inl (cI, 10, .inl (xnI sr2))), (ad 9, .inr (2, [.int nd2, .int (nI lc2), .long bc2, .int bv2, .ref (ad 10), .ref (ad 11), .ref (ad 12), .ref (ad 1), .ref (ad 5), .ref (ad 13), .ref (ad 14), .int (nI wc2)])), (ad 10, .inl (cI, lz, .inl lh2)), (ad 11, .inl (cI, lz, .inl lw2)), (ad 12, .inl (cL, lz, .inr (.inl lb2))), (ad 13, .inl (cI, 11, .inl wh2)), (ad 14, .inl (cI, 11, .inl wv2))] H → va_S (xA ad [5, 6, 7, 8, 9, 10, 11, 12, 13, 14]) s.heap H locs → lv_has ls 2 [(0, .ref (ad 9)), (1, .int (nI i))] → W p l e (headSpec wsX2_run ({ frames := 5, cells := 0, slots := 0, locals := 125 })).room s m [.ref (ad 9)].toArray below meth c H locs 0 0 (MQ below (va_Qv (fun u => f_run nv av nc mt mf wt lz ss sc avl gh gv sv sr st nd lc bc bv lh lw lb wh wv wc = u) (xB (dC, dI) vwCl (fun (u : (Nat → Int64) × Nat × Int64 × Int32 × Int32 × (Nat → Int32) × (Nat → Nat) × Nat × Int32 × Nat × Int64 × Int32 × (Nat → Int32) × (Nat → Int32) × (Nat → Int64) × (Nat → Int32) × (Nat → Int32) × Nat) => match u with | (ss1, sc1, avl1, gh1, gv1, sv1, sr1, st1, nd1, lc1, bc1, bv1, lh1, lw1, lb1, wh1, wv1, wc1) => [(ad 5, .inr (0, [.ref (ad 1), .ref (ad 6), .int (nI sc1), .long avl1, .int gh1, .int gv1, .ref (ad 7), .ref (ad 8), .int (nI st1)])), (ad 6, .inl (cL, 40, .inr (.inl ss1))), (ad 7, .inl (cI, 10, .inl sv1)), (ad 8, .inl (cI, 10, .inl (xnI sr1))), (ad 9, .inr (2, [.int nd1, .int (nI lc1), .long bc1, .int bv1, .ref (ad 10), .ref (ad 11), .ref (ad 12), .ref (ad 1), .ref (ad 5), .ref (ad 13), .ref (ad 14), .int (nI wc1)])), (ad 10, .inl (cI, lz, .inl lh1)), (ad 11, .inl (cI, lz, .inl lw1)), (ad 12, .inl (cL, lz, .inr (.inl lb1))), (ad 13, .inl (cI, 11, .inl wh1)), (ad 14, .inl (cI, 11, .inl wv1))])) (xA ad [5, 6, 7, 8, 9, 10, 11, 12, 13, 14])) [.ref (ad 9)].toArray s 0 0 (xA ad [5, 6, 7, 8, 9, 10, 11, 12, 13, 14])) (F0 m 12 ls []) := by
    intro n
    induction n with
    | zero =>
      intro i ss2 sc2 avl2 gh2 gv2 sv2 sr2 st2 nd2 lc2 bc2 bv2 lh2 lw2 lb2 wh2 wv2 wc2 H locs ls hF hil hlc2 hwc2 hP hS hl
      rw [f_run_L] at hF
      refine lv_iload_n hx hb dX2_run_12 rfl (lv_at hl 1 rfl) ?_
      refine lv_sipush (v := 2048) hx hb dX2_run_13 (by decide) ?_
      refine lv_icmp_ge (tgt := 64) hx hb dX2_run_16 (by decide) (fun h3 => ?_) (fun h3 => absurd (nI_le (a := 2048) (by omega) (by omega)) h3)
      exact W.vret hx hb hr (fun t ht hW => ⟨⟨(ss2, sc2, avl2, gh2, gv2, sv2, sr2, st2, nd2, lc2, bc2, bv2, lh2, lw2, lb2, wh2, wv2, wc2), rfl, hF, xBi ht hP⟩, hS.F ht⟩) hS.2.2 dX2_run_64
    | succ n ih =>
      intro i ss2 sc2 avl2 gh2 gv2 sv2 sr2 st2 nd2 lc2 bc2 bv2 lh2 lw2 lb2 wh2 wv2 wc2 H locs ls hF hil hlc2 hwc2 hP hS hl
      rw [f_run_L] at hF
      refine lv_iload_n hx hb dX2_run_12 rfl (lv_at hl 1 rfl) ?_
      refine lv_sipush (v := 2048) hx hb dX2_run_13 (by decide) ?_
      refine lv_icmp_ge (tgt := 64) hx hb dX2_run_16 (by decide) (fun h4 => absurd h4 (nI_ge (a := i) (b := 2048) (by omega) (by decide))) (fun h4 => ?_)
      refine lv_aload_n hx hb dX2_run_19 rfl (lv_at hl 0 rfl) ?_
      refine va_get (D := (dC, dI)) (ci := 2) (v := .int (nI wc2)) (C := RX2) (T := TX2) (N := 12) hx hb hts (xcons inX2) hown hK hP 4 rfl rfl 11 (by decide) hw0 (fun _ h9 => h9) rfl dX2_run_20 ?_
      refine lv_if_le (tgt := 64) hx hb dX2_run_23 (by decide) (fun h5 => ?_) (fun h5 => ?_)
      · have hF := hF.trans (if_pos h5)
        exact W.vret hx hb hr (fun t ht hW => ⟨⟨(ss2, sc2, avl2, gh2, gv2, sv2, sr2, st2, nd2, lc2, bc2, bv2, lh2, lw2, lb2, wh2, wv2, wc2), rfl, hF, xBi ht hP⟩, hS.F ht⟩) hS.2.2 dX2_run_64
      · have hF := hF.trans (if_neg h5)
        have hpos := xpos h5
        refine lv_aload_n hx hb dX2_run_26 rfl (lv_at hl 0 rfl) ?_
        refine lv_dup hx hb dX2_run_27 rfl ?_
        refine va_get (D := (dC, dI)) (ci := 2) (v := .int (nI wc2)) (C := RX2) (T := TX2) (N := 12) hx hb hts (xcons inX2) hown hK hP 4 rfl rfl 11 (by decide) hw0 (fun _ h9 => h9) rfl dX2_run_28 ?_
        refine lv_iconst (v := 1) hx hb dX2_run_31 (by decide) ?_
        refine xr_subp (by omega) hx hb dX2_run_32 ?_
        refine va_put (D := (dC, dI)) (ci := 2) (v := .int (nI (wc2 - 1))) (ty := .int) (C := RX2) (T := TX2) (N := 12) hx hb hts (xcons inX2) tyX2 tyX2_ok nX2 hown hK hP (xD hinj [5, 6, 7, 8, 9, 10, 11, 12, 13, 14] rfl (by decide) (by decide)) hS 4 rfl rfl 11 (by decide) hw0 (fun _ h9 => h9) rfl (by decide +kernel) rfl rfl (Nat.le_of_ble_eq_true rfl) dX2_run_33 (fun H locs hP _ hS => ?_)
        have hP : va_P (dC, dI) vwCl [(ad 5, .inr (0, [.ref (ad 1), .ref (ad 6), .int (nI sc2), .long avl2, .int gh2, .int gv2, .ref (ad 7), .ref (ad 8), .int (nI st2)])), (ad 6, .inl (cL, 40, .inr (.inl ss2))), (ad 7, .inl (cI, 10, .inl sv2)), (ad 8, .inl (cI, 10, .inl (xnI sr2))), (ad 9, .inr (2, [.int nd2, .int (nI lc2), .long bc2, .int bv2, .ref (ad 10), .ref (ad 11), .ref (ad 12), .ref (ad 1), .ref (ad 5), .ref (ad 13), .ref (ad 14), .int (nI (wc2 - 1))])), (ad 10, .inl (cI, lz, .inl lh2)), (ad 11, .inl (cI, lz, .inl lw2)), (ad 12, .inl (cL, lz, .inr (.inl lb2))), (ad 13, .inl (cI, 11, .inl wh2)), (ad 14, .inl (cI, 11, .inl wv2))] H := hP
        refine lv_aload_n hx hb dX2_run_36 rfl (lv_at hl 0 rfl) ?_
        refine lv_aload_n hx hb dX2_run_37 rfl (lv_at hl 0 rfl) ?_
        refine va_get (D := (dC, dI)) (ci := 2) (v := .ref (ad 13)) (C := RX2) (T := TX2) (N := 12) hx hb hts (xcons inX2) hown hK hP 4 rfl rfl 9 (by decide) hw1 (fun _ h9 => h9) rfl dX2_run_38 ?_
        refine lv_aload_n hx hb dX2_run_41 rfl (lv_at hl 0 rfl) ?_
        refine va_get (D := (dC, dI)) (ci := 2) (v := .int (nI (wc2 - 1))) (C := RX2) (T := TX2) (N := 12) hx hb hts (xcons inX2) hown hK hP 4 rfl rfl 11 (by decide) hw0 (fun _ h9 => h9) rfl dX2_run_42 ?_
        refine xr_iald hx hb hK hP 8 0 rfl rfl (wc2 - 1) (by omega) (by omega) dX2_run_45 ?_
        refine lv_aload_n hx hb dX2_run_46 rfl (lv_at hl 0 rfl) ?_
        refine va_get (D := (dC, dI)) (ci := 2) (v := .ref (ad 14)) (C := RX2) (T := TX2) (N := 12) hx hb hts (xcons inX2) hown hK hP 4 rfl rfl 10 (by decide) hw2 (fun _ h9 => h9) rfl dX2_run_47 ?_
        refine lv_aload_n hx hb dX2_run_50 rfl (lv_at hl 0 rfl) ?_
        refine va_get (D := (dC, dI)) (ci := 2) (v := .int (nI (wc2 - 1))) (C := RX2) (T := TX2) (N := 12) hx hb hts (xcons inX2) hown hK hP 4 rfl rfl 11 (by decide) hw0 (fun _ h9 => h9) rfl dX2_run_51 ?_
        refine xr_iald hx hb hK hP 9 0 rfl rfl (wc2 - 1) (by omega) (by omega) dX2_run_54 ?_
        have hR := xP0 hPr (xnA hinj [1, 2, 3, 4] rfl (by decide)) hS
        refine xrw_v (va_runV (As := [.int (wh2 (wc2 - 1)), .int (wv2 (wc2 - 1))]) (rest := []) ⟨hx, hb, hml, hown, hts⟩ (c_visit l dC dI cI cL cZ ad hinj nv av nc mt mf wt ss2 sc2 avl2 gh2 gv2 sv2 sr2 st2 lz nd2 lc2 bc2 bv2 lh2 lw2 lb2 wh2 wv2 (wc2 - 1) (by omega) (by omega) (by omega) (by omega) (by omega) (wh2 (wc2 - 1)) (wv2 (wc2 - 1))) (xcwV 2 hts wd_225 wd_38 wd_222 wd_224 wd_1 rfl rfl (by decide +kernel) ⟨Nat.le_of_ble_eq_true rfl, Nat.le_of_ble_eq_true rfl⟩) (xpreV (va_recv hK hP rfl (q0 := 4) rfl) ((hR.app hP).sub [0, 1, 2, 3, 4, 5, 6, 7, 8, 9, 10, 11, 12, 13] rfl) hK) rfl rfl hl.1 rfl (lv_room (Nat.le_of_ble_eq_true rfl)) dX2_run_55 ⟨Nat.le_of_ble_eq_true rfl, Nat.le_of_ble_eq_true rfl⟩) hS (xAsub (by decide)) (fun u H locs h6 hB hk hS => ?_)
        obtain ⟨ss1_55, sc1_55, avl1_55, gh1_55, gv1_55, sv1_55, sr1_55, st1_55, nd1_55, lc1_55, bc1_55, bv1_55, lh1_55, lw1_55, lb1_55, wh1_55, wv1_55, wc1_55⟩ := u
        have hP : va_P (dC, dI) vwCl [(ad 5, .inr (0, [.ref (ad 1), .ref (ad 6), .int (nI sc1_55), .long avl1_55, .int gh1_55, .int gv1_55, .ref (ad 7), .ref (ad 8), .int (nI st1_55)])), (ad 6, .inl (cL, 40, .inr (.inl ss1_55))), (ad 7, .inl (cI, 10, .inl sv1_55)), (ad 8, .inl (cI, 10, .inl (xnI sr1_55))), (ad 9, .inr (2, [.int nd1_55, .int (nI lc1_55), .long bc1_55, .int bv1_55, .ref (ad 10), .ref (ad 11), .ref (ad 12), .ref (ad 1), .ref (ad 5), .ref (ad 13), .ref (ad 14), .int (nI wc1_55)])), (ad 10, .inl (cI, lz, .inl lh1_55)), (ad 11, .inl (cI, lz, .inl lw1_55)), (ad 12, .inl (cL, lz, .inr (.inl lb1_55))), (ad 13, .inl (cI, 11, .inl wh1_55)), (ad 14, .inl (cI, 11, .inl wv1_55))] H := va_P.sub hB [0, 1, 2, 3, 4, 5, 6, 7, 8, 9] rfl
        rw [h6] at hF
        try dsimp only at hF
        have hv1 := visit_ok h6 hlz hlc2 (by omega)
        refine lv_iinc (k := 1) (v := (nI (i + 1))) (lv' := [(1, .int (nI (i + 1))), (0, .ref (ad 9))]) hx hb dX2_run_58 hl rfl (xinc _) (by decide) rfl (fun ls hl => ?_)
        refine lv_goto (tgt := 12) hx hb dX2_run_61 (by decide) ?_
        exact ih (i + 1) ss1_55 sc1_55 avl1_55 gh1_55 gv1_55 sv1_55 sr1_55 st1_55 nd1_55 lc1_55 bc1_55 bv1_55 lh1_55 lw1_55 lb1_55 wh1_55 wv1_55 wc1_55 _ _ _ hF (by omega) hv1.1 hv1.2 hP hS (lv_sub hl [1, 0] rfl)
  exact lp12 2048 0 ss sc avl gh gv sv sr st nd1_1 lc1_1 bc1_1 bv1_1 lh lw lb wh1_7 wv1_7 wc1_7 _ _ _ hF (by omega) (by omega) hwc1 hP hS (lv_sub hl [1, 0] rfl)
