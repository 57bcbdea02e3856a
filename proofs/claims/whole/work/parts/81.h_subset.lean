def l_subset (nc : Nat) (mt mf wt : Nat → Int32) (ss : Nat → Int64) (sc : Nat) (avl : Int64) (gh gv : Int32) (sv : Nat → Int32) (sr : Nat → Nat) (st : Nat) (hv vl : Int32) (j : Int32) (of : Nat → Int64) : Int32 × (Nat → Int64) × Nat × Int64 × Int32 × Int32 × (Nat → Int32) × (Nat → Nat) × Nat × (Nat → Int64) :=
  match (f_subset nc mt mf wt ss sc avl gh gv sv sr st hv vl j) with
  | (r_7, ss1_7, sc1_7, avl1_7, gh1_7, gv1_7, sv1_7, sr1_7, st1_7) =>
    (0, (ss1_7, sc1_7, avl1_7, gh1_7, gv1_7, sv1_7, sr1_7, st1_7, (vp_updL of 0 r_7)))
set_option maxHeartbeats 4000000 in
set_option maxRecDepth 100000 in
theorem h_subset (l : Launch) (dC : Nat → ClassId) (dI : Nat → Nat → Nat) (cI cL cZ : ClassId) (ad : Nat → Nat) (hinj : xI ad 16) (nv : Nat) (av : Int32) (nc : Nat) (mt mf wt : Nat → Int32) (ss : Nat → Int64) (sc : Nat) (avl : Int64) (gh gv : Int32) (sv : Nat → Int32) (sr : Nat → Nat) (st : Nat) (hnc : nc ≤ 40) (hv vl : Int32) (j : Int32) (hok : ¬ f_isState av hv vl = 0) (of : Nat → Int64) : Met l yL_subset wsL_subset ({ frames := 7, cells := 0, slots := 0, locals := 122 }) (va_Pc [.ref (ad 0), .int hv, .int vl, .int j, .ref (ad 15)] (fun U => va_P (dC, dI) vwCl [(ad 0, .inr (3, [.ref (ad 1), .ref (ad 5), .ref (ad 9)])), (ad 1, .inr (1, [.int (nI nv), .int av, .int (nI nc), .ref (ad 2), .ref (ad 3), .ref (ad 4)])), (ad 2, .inl (cI, 40, .inl mt)), (ad 3, .inl (cI, 40, .inl mf)), (ad 4, .inl (cI, 40, .inl wt)), (ad 5, .inr (0, [.ref (ad 1), .ref (ad 6), .int (nI sc), .long avl, .int gh, .int gv, .ref (ad 7), .ref (ad 8), .int (nI st)])), (ad 6, .inl (cL, 40, .inr (.inl ss))), (ad 7, .inl (cI, 10, .inl sv)), (ad 8, .inl (cI, 10, .inl (xnI sr))), (ad 15, .inl (cL, 1, .inr (.inl of)))] U.heap ∧ va_K (dC, dI) vwCl [(cI, .int), (cL, .long), (cZ, .boolean)] U)) (va_Qi (fun r u => l_subset nc mt mf wt ss sc avl gh gv sv sr st hv vl j of = (r, u)) (xB (dC, dI) vwCl (fun (u : (Nat → Int64) × Nat × Int64 × Int32 × Int32 × (Nat → Int32) × (Nat → Nat) × Nat × (Nat → Int64)) => match u with | (ss1, sc1, avl1, gh1, gv1, sv1, sr1, st1, of1) => [(ad 5, .inr (0, [.ref (ad 1), .ref (ad 6), .int (nI sc1), .long avl1, .int gh1, .int gv1, .ref (ad 7), .ref (ad 8), .int (nI st1)])), (ad 6, .inl (cL, 40, .inr (.inl ss1))), (ad 7, .inl (cI, 10, .inl sv1)), (ad 8, .inl (cI, 10, .inl (xnI sr1))), (ad 15, .inl (cL, 1, .inr (.inl of1)))])) (xA ad [5, 6, 7, 8, 15])) 0 0 (xA ad [5, 6, 7, 8, 15]) := by
  refine va_MetW (hh := [(0, 11, 14, 13)]) (cc := cL_subset) (maxL := 6) (ret := (some .int)) (by decide) rfl ?_
  intro p e s m args below meth c s₁ B hml hvv
  obtain ⟨rfl, hP0, hK⟩ := hvv
  have hx := B.exec
  have hb := B.bytes
  have hr := B.returns
  have hts := atoms_spec (ws := wsL_subset) B.pre
  have hown : s.vm.findClass RL = some m.cls := findClass_of_methodNamed B.named
  have hlocks := B.notSynchronized
  have hPr : va_P (dC, dI) vwCl [(ad 0, .inr (3, [.ref (ad 1), .ref (ad 5), .ref (ad 9)])), (ad 1, .inr (1, [.int (nI nv), .int av, .int (nI nc), .ref (ad 2), .ref (ad 3), .ref (ad 4)])), (ad 2, .inl (cI, 40, .inl mt)), (ad 3, .inl (cI, 40, .inl mf)), (ad 4, .inl (cI, 40, .inl wt))] s.heap := hP0.sub [0, 1, 2, 3, 4] rfl
  have hP : va_P (dC, dI) vwCl [(ad 5, .inr (0, [.ref (ad 1), .ref (ad 6), .int (nI sc), .long avl, .int gh, .int gv, .ref (ad 7), .ref (ad 8), .int (nI st)])), (ad 6, .inl (cL, 40, .inr (.inl ss))), (ad 7, .inl (cI, 10, .inl sv)), (ad 8, .inl (cI, 10, .inl (xnI sr))), (ad 15, .inl (cL, 1, .inr (.inl of)))] s.heap := hP0.sub [5, 6, 7, 8, 9] rfl
  have hS : va_S (xA ad [5, 6, 7, 8, 15]) s.heap s.heap [] := va_S.rf
  have hl := lv_entry [.ref (ad 0), .int hv, .int vl, .int j, .ref (ad 15)] (n := 6) (Nat.le_of_ble_eq_true rfl)
  rw [lg_entry_eq]
  generalize (lg_sl [.ref (ad 0), .int hv, .int vl, .int j, .ref (ad 15)] ++ List.replicate (6 - (lg_sl [.ref (ad 0), .int hv, .int vl, .int j, .ref (ad 15)]).length) Slot.unset).toArray = ls at hl ⊢
  have hl : lv_has ls 6 [(0, .ref (ad 0)), (1, .int hv), (2, .int vl), (3, .int j), (4, .ref (ad 15))] := hl
  have hF := Eq.refl (l_subset nc mt mf wt ss sc avl gh gv sv sr st hv vl j of)
  conv at hF => rhs; unfold l_subset
  refine lv_aload hx hb dL_subset_0 (lv_at hl 4 rfl) ?_
  refine lv_iconst (v := 0) hx hb dL_subset_2 (by decide) ?_
  refine lv_aload_n hx hb dL_subset_3 rfl (lv_at hl 0 rfl) ?_
  refine lv_iload_n hx hb dL_subset_4 rfl (lv_at hl 1 rfl) ?_
  refine lv_iload_n hx hb dL_subset_5 rfl (lv_at hl 2 rfl) ?_
  refine lv_iload_n hx hb dL_subset_6 rfl (lv_at hl 3 rfl) ?_
  have hR := xP0 hPr (xnA hinj [0, 1, 2, 3, 4] rfl (by decide)) hS
  refine xrw_l (va_runV (As := [.int hv, .int vl, .int j]) (rest := [.int 0, .ref (ad 15)]) ⟨hx, hb, hml, hown, hts⟩ (c_subset l dC dI cI cL cZ ad (hinj.le (by omega)) nv av nc mt mf wt ss sc avl gh gv sv sr st (by omega) hv vl j hok) (xcwV 3 hts wd_511 wd_34 wd_508 wd_509 wd_510 rfl rfl (by decide +kernel) ⟨Nat.le_of_ble_eq_true rfl, Nat.le_of_ble_eq_true rfl⟩) (xpreV (va_recv hK hR rfl (q0 := 0) rfl) ((hR.app hP).sub [0, 1, 2, 3, 4, 5, 6, 7, 8] rfl) hK) rfl rfl hl.1 rfl (lv_room (Nat.le_of_ble_eq_true rfl)) dL_subset_7 ⟨Nat.le_of_ble_eq_true rfl, Nat.le_of_ble_eq_true rfl⟩) hS (xAsub (by decide)) (fun r_7 u H locs h1 hB hk hS => ?_)
  obtain ⟨ss1_7, sc1_7, avl1_7, gh1_7, gv1_7, sv1_7, sr1_7, st1_7⟩ := u
  have hP : va_P (dC, dI) vwCl [(ad 5, .inr (0, [.ref (ad 1), .ref (ad 6), .int (nI sc1_7), .long avl1_7, .int gh1_7, .int gv1_7, .ref (ad 7), .ref (ad 8), .int (nI st1_7)])), (ad 6, .inl (cL, 40, .inr (.inl ss1_7))), (ad 7, .inl (cI, 10, .inl sv1_7)), (ad 8, .inl (cI, 10, .inl (xnI sr1_7))), (ad 15, .inl (cL, 1, .inr (.inl of)))] H := ((xkeepA hP hk [4] rfl (xnA hinj [15] rfl (by decide))).app hB).sub [1, 2, 3, 4, 0] rfl
  rw [h1] at hF
  try dsimp only at hF
  refine xr_last hx hb hK hP (xD hinj [5, 6, 7, 8, 15] rfl (by decide) (by decide)) hS 4 1 rfl rfl 0 (by omega) (by omega) dL_subset_10 (fun H locs hP hS => ?_)
  have hP : va_P (dC, dI) vwCl [(ad 5, .inr (0, [.ref (ad 1), .ref (ad 6), .int (nI sc1_7), .long avl1_7, .int gh1_7, .int gv1_7, .ref (ad 7), .ref (ad 8), .int (nI st1_7)])), (ad 6, .inl (cL, 40, .inr (.inl ss1_7))), (ad 7, .inl (cI, 10, .inl sv1_7)), (ad 8, .inl (cI, 10, .inl (xnI sr1_7))), (ad 15, .inl (cL, 1, .inr (.inl (vp_updL of 0 r_7))))] H := hP
  refine lv_goto (tgt := 18) hx hb dL_subset_11 (by decide) ?_
  refine lv_iconst (v := 0) hx hb dL_subset_18 (by decide) ?_
  exact W.iret (v := 0) hx hb hr (fun t ht hW => ⟨⟨_, (ss1_7, sc1_7, avl1_7, gh1_7, gv1_7, sv1_7, sr1_7, st1_7, (vp_updL of 0 r_7)), rfl, hF, xBi ht hP⟩, hS.F ht⟩) hS.2.2 dL_subset_19
