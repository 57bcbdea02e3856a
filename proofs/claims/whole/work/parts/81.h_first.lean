def l_first (nv nc : Nat) (mt mf : Nat → Int32) (hv vl : Int32) (of : Nat → Int64) : Int32 × (Nat → Int64) :=
  (0, (vp_updL of 0 ((f_first nv nc mt mf hv vl).toInt64)))
set_option maxHeartbeats 4000000 in
set_option maxRecDepth 100000 in
theorem h_first (l : Launch) (dC : Nat → ClassId) (dI : Nat → Nat → Nat) (cI cL cZ : ClassId) (ad : Nat → Nat) (hinj : xI ad 16) (nv : Nat) (av : Int32) (nc : Nat) (mt mf wt : Nat → Int32) (hnc : nc ≤ 40) (hnv : nv ≤ 10) (hv vl : Int32) (hok : ¬ f_isState av hv vl = 0) (of : Nat → Int64) : Met l yL_first wsL_first ({ frames := 7, cells := 0, slots := 0, locals := 112 }) (va_Pc [.ref (ad 0), .int hv, .int vl, .ref (ad 15)] (fun U => va_P (dC, dI) vwCl [(ad 0, .inr (3, [.ref (ad 1), .ref (ad 5), .ref (ad 9)])), (ad 1, .inr (1, [.int (nI nv), .int av, .int (nI nc), .ref (ad 2), .ref (ad 3), .ref (ad 4)])), (ad 2, .inl (cI, 40, .inl mt)), (ad 3, .inl (cI, 40, .inl mf)), (ad 4, .inl (cI, 40, .inl wt)), (ad 15, .inl (cL, 1, .inr (.inl of)))] U.heap ∧ va_K (dC, dI) vwCl [(cI, .int), (cL, .long), (cZ, .boolean)] U)) (va_Qi (fun r u => l_first nv nc mt mf hv vl of = (r, u)) (xB (dC, dI) vwCl (fun (u : (Nat → Int64)) => match u with | of1 => [(ad 15, .inl (cL, 1, .inr (.inl of1)))])) (xA ad [15])) 0 0 (xA ad [15]) := by
  refine va_MetW (hh := [(0, 10, 13, 13)]) (cc := cL_first) (maxL := 5) (ret := (some .int)) (by decide) rfl ?_
  intro p e s m args below meth c s₁ B hml hvv
  obtain ⟨rfl, hP0, hK⟩ := hvv
  have hx := B.exec
  have hb := B.bytes
  have hr := B.returns
  have hts := atoms_spec (ws := wsL_first) B.pre
  have hown : s.vm.findClass RL = some m.cls := findClass_of_methodNamed B.named
  have hlocks := B.notSynchronized
  have hPr : va_P (dC, dI) vwCl [(ad 0, .inr (3, [.ref (ad 1), .ref (ad 5), .ref (ad 9)])), (ad 1, .inr (1, [.int (nI nv), .int av, .int (nI nc), .ref (ad 2), .ref (ad 3), .ref (ad 4)])), (ad 2, .inl (cI, 40, .inl mt)), (ad 3, .inl (cI, 40, .inl mf)), (ad 4, .inl (cI, 40, .inl wt))] s.heap := hP0.sub [0, 1, 2, 3, 4] rfl
  have hP : va_P (dC, dI) vwCl [(ad 15, .inl (cL, 1, .inr (.inl of)))] s.heap := hP0.sub [5] rfl
  have hS : va_S (xA ad [15]) s.heap s.heap [] := va_S.rf
  have hl := lv_entry [.ref (ad 0), .int hv, .int vl, .ref (ad 15)] (n := 5) (Nat.le_of_ble_eq_true rfl)
  rw [lg_entry_eq]
  generalize (lg_sl [.ref (ad 0), .int hv, .int vl, .ref (ad 15)] ++ List.replicate (5 - (lg_sl [.ref (ad 0), .int hv, .int vl, .ref (ad 15)]).length) Slot.unset).toArray = ls at hl ⊢
  have hl : lv_has ls 5 [(0, .ref (ad 0)), (1, .int hv), (2, .int vl), (3, .ref (ad 15))] := hl
  have hF := Eq.refl (l_first nv nc mt mf hv vl of)
  conv at hF => rhs; unfold l_first
  refine lv_aload_n hx hb dL_first_0 rfl (lv_at hl 3 rfl) ?_
  refine lv_iconst (v := 0) hx hb dL_first_1 (by decide) ?_
  refine lv_aload_n hx hb dL_first_2 rfl (lv_at hl 0 rfl) ?_
  refine lv_iload_n hx hb dL_first_3 rfl (lv_at hl 1 rfl) ?_
  refine lv_iload_n hx hb dL_first_4 rfl (lv_at hl 2 rfl) ?_
  have hR := xP0 hPr (xnA hinj [0, 1, 2, 3, 4] rfl (by decide)) hS
  refine xro_i (va_runV (As := [.int hv, .int vl]) (rest := [.int 0, .ref (ad 15)]) ⟨hx, hb, hml, hown, hts⟩ (c_first l dC dI cI cL cZ ad (hinj.le (by omega)) nv av nc mt mf wt (by omega) (by omega) hv vl hok) (xcwV 2 hts wd_522 wd_34 wd_519 wd_520 wd_521 rfl rfl (by decide +kernel) ⟨Nat.le_of_ble_eq_true rfl, Nat.le_of_ble_eq_true rfl⟩) (xpreV (va_recv hK hR rfl (q0 := 0) rfl) hR hK) rfl rfl hl.1 rfl (lv_room (Nat.le_of_ble_eq_true rfl)) dL_first_5 ⟨Nat.le_of_ble_eq_true rfl, Nat.le_of_ble_eq_true rfl⟩) hS (fun H locs hk hS => ?_)
  have hP := xkeep hP hk
  refine lv_i2l (v := (f_first nv nc mt mf hv vl).toInt64) hx hb dL_first_8 rfl ?_
  refine xr_last hx hb hK hP (xD hinj [15] rfl (by decide) (by decide)) hS 0 1 rfl rfl 0 (by omega) (by omega) dL_first_9 (fun H locs hP hS => ?_)
  have hP : va_P (dC, dI) vwCl [(ad 15, .inl (cL, 1, .inr (.inl (vp_updL of 0 ((f_first nv nc mt mf hv vl).toInt64)))))] H := hP
  refine lv_goto (tgt := 17) hx hb dL_first_10 (by decide) ?_
  refine lv_iconst (v := 0) hx hb dL_first_17 (by decide) ?_
  exact W.iret (v := 0) hx hb hr (fun t ht hW => ⟨⟨_, (vp_updL of 0 ((f_first nv nc mt mf hv vl).toInt64)), rfl, hF, xBi ht hP⟩, hS.F ht⟩) hS.2.2 dL_first_18
