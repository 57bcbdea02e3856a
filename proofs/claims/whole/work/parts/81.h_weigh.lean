def l_weigh (nc : Nat) (mt mf wt : Nat → Int32) (k w : Int32) (of : Nat → Int64) : Int32 × Nat × (Nat → Int32) × (Nat → Int32) × (Nat → Int32) × Int32 × Nat × Int64 × Int32 × Nat × (Nat → Int64) :=
  match (f_weigh nc mt mf wt k w) with
  | (r_5, nc1_5, mt1_5, mf1_5, wt1_5, nd1_5, lc1_5, bc1_5, bv1_5, wc1_5) =>
    (0, (nc1_5, mt1_5, mf1_5, wt1_5, nd1_5, lc1_5, bc1_5, bv1_5, wc1_5, (vp_updL of 0 r_5.toInt64)))
set_option maxHeartbeats 4000000 in
set_option maxRecDepth 100000 in
theorem h_weigh (l : Launch) (dC : Nat → ClassId) (dI : Nat → Nat → Nat) (cI cL cZ : ClassId) (ad : Nat → Nat) (hinj : xI ad 16) (nv : Nat) (av : Int32) (nc : Nat) (mt mf wt : Nat → Int32) (lz : Nat) (nd : Int32) (lc : Nat) (bc : Int64) (bv : Int32) (lh lw : Nat → Int32) (lb : Nat → Int64) (wh wv : Nat → Int32) (wc : Nat) (hnc : nc ≤ 40) (k w : Int32) (hk1 : ¬ k < 0) (hk2 : ¬ nI nc ≤ k) (hw : ¬ f_isWeight w = 0) (of : Nat → Int64) : Met l yL_weigh wsL_weigh ({ frames := 7, cells := 0, slots := 0, locals := 112 }) (va_Pc [.ref (ad 0), .int k, .int w, .ref (ad 15)] (fun U => va_P (dC, dI) vwCl [(ad 0, .inr (3, [.ref (ad 1), .ref (ad 5), .ref (ad 9)])), (ad 1, .inr (1, [.int (nI nv), .int av, .int (nI nc), .ref (ad 2), .ref (ad 3), .ref (ad 4)])), (ad 2, .inl (cI, 40, .inl mt)), (ad 3, .inl (cI, 40, .inl mf)), (ad 4, .inl (cI, 40, .inl wt)), (ad 9, .inr (2, [.int nd, .int (nI lc), .long bc, .int bv, .ref (ad 10), .ref (ad 11), .ref (ad 12), .ref (ad 1), .ref (ad 5), .ref (ad 13), .ref (ad 14), .int (nI wc)])), (ad 10, .inl (cI, lz, .inl lh)), (ad 11, .inl (cI, lz, .inl lw)), (ad 12, .inl (cL, lz, .inr (.inl lb))), (ad 13, .inl (cI, 11, .inl wh)), (ad 14, .inl (cI, 11, .inl wv)), (ad 15, .inl (cL, 1, .inr (.inl of)))] U.heap ∧ va_K (dC, dI) vwCl [(cI, .int), (cL, .long), (cZ, .boolean)] U)) (va_Qi (fun r u => l_weigh nc mt mf wt k w of = (r, u)) (xB (dC, dI) vwCl (fun (u : Nat × (Nat → Int32) × (Nat → Int32) × (Nat → Int32) × Int32 × Nat × Int64 × Int32 × Nat × (Nat → Int64)) => match u with | (nc1, mt1, mf1, wt1, nd1, lc1, bc1, bv1, wc1, of1) => [(ad 1, .inr (1, [.int (nI nv), .int av, .int (nI nc1), .ref (ad 2), .ref (ad 3), .ref (ad 4)])), (ad 2, .inl (cI, 40, .inl mt1)), (ad 3, .inl (cI, 40, .inl mf1)), (ad 4, .inl (cI, 40, .inl wt1)), (ad 9, .inr (2, [.int nd1, .int (nI lc1), .long bc1, .int bv1, .ref (ad 10), .ref (ad 11), .ref (ad 12), .ref (ad 1), .ref (ad 5), .ref (ad 13), .ref (ad 14), .int (nI wc1)])), (ad 10, .inl (cI, lz, .inl lh)), (ad 11, .inl (cI, lz, .inl lw)), (ad 12, .inl (cL, lz, .inr (.inl lb))), (ad 13, .inl (cI, 11, .inl wh)), (ad 14, .inl (cI, 11, .inl wv)), (ad 15, .inl (cL, 1, .inr (.inl of1)))])) (xA ad [1, 2, 3, 4, 9, 10, 11, 12, 13, 14, 15])) 0 0 (xA ad [1, 2, 3, 4, 9, 10, 11, 12, 13, 14, 15]) := by
  refine va_MetW (hh := [(0, 10, 13, 13)]) (cc := cL_weigh) (maxL := 5) (ret := (some .int)) (by decide) rfl ?_
  intro p e s m args below meth c s₁ B hml hvv
  obtain ⟨rfl, hP0, hK⟩ := hvv
  have hx := B.exec
  have hb := B.bytes
  have hr := B.returns
  have hts := atoms_spec (ws := wsL_weigh) B.pre
  have hown : s.vm.findClass RL = some m.cls := findClass_of_methodNamed B.named
  have hlocks := B.notSynchronized
  have hPr : va_P (dC, dI) vwCl [(ad 0, .inr (3, [.ref (ad 1), .ref (ad 5), .ref (ad 9)]))] s.heap := hP0.sub [0] rfl
  have hP : va_P (dC, dI) vwCl [(ad 1, .inr (1, [.int (nI nv), .int av, .int (nI nc), .ref (ad 2), .ref (ad 3), .ref (ad 4)])), (ad 2, .inl (cI, 40, .inl mt)), (ad 3, .inl (cI, 40, .inl mf)), (ad 4, .inl (cI, 40, .inl wt)), (ad 9, .inr (2, [.int nd, .int (nI lc), .long bc, .int bv, .ref (ad 10), .ref (ad 11), .ref (ad 12), .ref (ad 1), .ref (ad 5), .ref (ad 13), .ref (ad 14), .int (nI wc)])), (ad 10, .inl (cI, lz, .inl lh)), (ad 11, .inl (cI, lz, .inl lw)), (ad 12, .inl (cL, lz, .inr (.inl lb))), (ad 13, .inl (cI, 11, .inl wh)), (ad 14, .inl (cI, 11, .inl wv)), (ad 15, .inl (cL, 1, .inr (.inl of)))] s.heap := hP0.sub [1, 2, 3, 4, 5, 6, 7, 8, 9, 10, 11] rfl
  have hS : va_S (xA ad [1, 2, 3, 4, 9, 10, 11, 12, 13, 14, 15]) s.heap s.heap [] := va_S.rf
  have hl := lv_entry [.ref (ad 0), .int k, .int w, .ref (ad 15)] (n := 5) (Nat.le_of_ble_eq_true rfl)
  rw [lg_entry_eq]
  generalize (lg_sl [.ref (ad 0), .int k, .int w, .ref (ad 15)] ++ List.replicate (5 - (lg_sl [.ref (ad 0), .int k, .int w, .ref (ad 15)]).length) Slot.unset).toArray = ls at hl ⊢
  have hl : lv_has ls 5 [(0, .ref (ad 0)), (1, .int k), (2, .int w), (3, .ref (ad 15))] := hl
  have hF := Eq.refl (l_weigh nc mt mf wt k w of)
  conv at hF => rhs; unfold l_weigh
  refine lv_aload_n hx hb dL_weigh_0 rfl (lv_at hl 3 rfl) ?_
  refine lv_iconst (v := 0) hx hb dL_weigh_1 (by decide) ?_
  refine lv_aload_n hx hb dL_weigh_2 rfl (lv_at hl 0 rfl) ?_
  refine lv_iload_n hx hb dL_weigh_3 rfl (lv_at hl 1 rfl) ?_
  refine lv_iload_n hx hb dL_weigh_4 rfl (lv_at hl 2 rfl) ?_
  have hR := xP0 hPr (xnA hinj [0] rfl (by decide)) hS
  refine xrw_i (va_runV (As := [.int k, .int w]) (rest := [.int 0, .ref (ad 15)]) ⟨hx, hb, hml, hown, hts⟩ (c_weigh l dC dI cI cL cZ ad (hinj.le (by omega)) nv av nc mt mf wt lz nd lc bc bv lh lw lb wh wv wc (by omega) k w hk1 hk2 hw) (xcwV 2 hts wd_480 wd_34 wd_477 wd_478 wd_479 rfl rfl (by decide +kernel) ⟨Nat.le_of_ble_eq_true rfl, Nat.le_of_ble_eq_true rfl⟩) (xpreV (va_recv hK hR rfl (q0 := 0) rfl) ((hR.app hP).sub [0, 1, 2, 3, 4, 5, 6, 7, 8, 9, 10] rfl) hK) rfl rfl hl.1 rfl (lv_room (Nat.le_of_ble_eq_true rfl)) dL_weigh_5 ⟨Nat.le_of_ble_eq_true rfl, Nat.le_of_ble_eq_true rfl⟩) hS (xAsub (by decide)) (fun r_5 u H locs h1 hB hk hS => ?_)
  obtain ⟨nc1_5, mt1_5, mf1_5, wt1_5, nd1_5, lc1_5, bc1_5, bv1_5, wc1_5⟩ := u
  have hP : va_P (dC, dI) vwCl [(ad 1, .inr (1, [.int (nI nv), .int av, .int (nI nc1_5), .ref (ad 2), .ref (ad 3), .ref (ad 4)])), (ad 2, .inl (cI, 40, .inl mt1_5)), (ad 3, .inl (cI, 40, .inl mf1_5)), (ad 4, .inl (cI, 40, .inl wt1_5)), (ad 9, .inr (2, [.int nd1_5, .int (nI lc1_5), .long bc1_5, .int bv1_5, .ref (ad 10), .ref (ad 11), .ref (ad 12), .ref (ad 1), .ref (ad 5), .ref (ad 13), .ref (ad 14), .int (nI wc1_5)])), (ad 10, .inl (cI, lz, .inl lh)), (ad 11, .inl (cI, lz, .inl lw)), (ad 12, .inl (cL, lz, .inr (.inl lb))), (ad 13, .inl (cI, 11, .inl wh)), (ad 14, .inl (cI, 11, .inl wv)), (ad 15, .inl (cL, 1, .inr (.inl of)))] H := ((xkeepA hP hk [10] rfl (xnA hinj [15] rfl (by decide))).app hB).sub [1, 2, 3, 4, 5, 6, 7, 8, 9, 10, 0] rfl
  rw [h1] at hF
  try dsimp only at hF
  refine lv_i2l (v := r_5.toInt64) hx hb dL_weigh_8 rfl ?_
  refine xr_last hx hb hK hP (xD hinj [1, 2, 3, 4, 9, 10, 11, 12, 13, 14, 15] rfl (by decide) (by decide)) hS 10 1 rfl rfl 0 (by omega) (by omega) dL_weigh_9 (fun H locs hP hS => ?_)
  have hP : va_P (dC, dI) vwCl [(ad 1, .inr (1, [.int (nI nv), .int av, .int (nI nc1_5), .ref (ad 2), .ref (ad 3), .ref (ad 4)])), (ad 2, .inl (cI, 40, .inl mt1_5)), (ad 3, .inl (cI, 40, .inl mf1_5)), (ad 4, .inl (cI, 40, .inl wt1_5)), (ad 9, .inr (2, [.int nd1_5, .int (nI lc1_5), .long bc1_5, .int bv1_5, .ref (ad 10), .ref (ad 11), .ref (ad 12), .ref (ad 1), .ref (ad 5), .ref (ad 13), .ref (ad 14), .int (nI wc1_5)])), (ad 10, .inl (cI, lz, .inl lh)), (ad 11, .inl (cI, lz, .inl lw)), (ad 12, .inl (cL, lz, .inr (.inl lb))), (ad 13, .inl (cI, 11, .inl wh)), (ad 14, .inl (cI, 11, .inl wv)), (ad 15, .inl (cL, 1, .inr (.inl (vp_updL of 0 r_5.toInt64))))] H := hP
  refine lv_goto (tgt := 17) hx hb dL_weigh_10 (by decide) ?_
  refine lv_iconst (v := 0) hx hb dL_weigh_17 (by decide) ?_
  exact W.iret (v := 0) hx hb hr (fun t ht hW => ⟨⟨_, (nc1_5, mt1_5, mf1_5, wt1_5, nd1_5, lc1_5, bc1_5, bv1_5, wc1_5, (vp_updL of 0 r_5.toInt64)), rfl, hF, xBi ht hP⟩, hS.F ht⟩) hS.2.2 dL_weigh_18
