set_option maxHeartbeats 4000000 in
set_option maxRecDepth 100000 in
theorem h_clause_x1 (l : Launch) (dC : Nat → ClassId) (dI : Nat → Nat → Nat) (cI cL cZ : ClassId) (ad : Nat → Nat) (hinj : xI ad 16) (hlt : ∀ e : Env, l.admits e → e.platform.stackTraces = false) (nv : Nat) (av : Int32) (nc : Nat) (mt mf wt : Nat → Int32) (lz : Nat) (nd : Int32) (lc : Nat) (bc : Int64) (bv : Int32) (lh lw : Nat → Int32) (lb : Nat → Int64) (wh wv : Nat → Int32) (wc : Nat) (hnc : nc ≤ 40) (w a1 a2 a3 a4 : Int32) (hw : f_isWeight w = 0) : Met l yL_clause wsL_clause ({ frames := 7, cells := 1, slots := 6, locals := 117 }) (va_Pc [.ref (ad 0), .int w, .int a1, .int a2, .int a3, .int a4, .ref (ad 15)] (fun U => va_P (dC, dI) vwCl [(ad 0, .inr (3, [.ref (ad 1), .ref (ad 5), .ref (ad 9)])), (ad 1, .inr (1, [.int (nI nv), .int av, .int (nI nc), .ref (ad 2), .ref (ad 3), .ref (ad 4)])), (ad 2, .inl (cI, 40, .inl mt)), (ad 3, .inl (cI, 40, .inl mf)), (ad 4, .inl (cI, 40, .inl wt)), (ad 9, .inr (2, [.int nd, .int (nI lc), .long bc, .int bv, .ref (ad 10), .ref (ad 11), .ref (ad 12), .ref (ad 1), .ref (ad 5), .ref (ad 13), .ref (ad 14), .int (nI wc)])), (ad 10, .inl (cI, lz, .inl lh)), (ad 11, .inl (cI, lz, .inl lw)), (ad 12, .inl (cL, lz, .inr (.inl lb))), (ad 13, .inl (cI, 11, .inl wh)), (ad 14, .inl (cI, 11, .inl wv))] U.heap ∧ va_K (dC, dI) vwCl [(cI, .int), (cL, .long), (cZ, .boolean)] U ∧ xEx U ∧ xNo U)) (va_Qi (fun r (_ : Unit) => (1 : Int32) = r) (fun _ _ => True) xN) 1 6 xN := by
  refine va_MetW (hh := [(0, 16, 19, 13), (0, 16, 23, 15)]) (cc := cL_clause) (maxL := 8) (ret := (some .int)) (by decide) rfl ?_
  intro p e s m args below meth c s₁ B hml hvv
  obtain ⟨rfl, hP, hK, hE, hN⟩ := hvv
  have hx := B.exec
  have hb := B.bytes
  have hr := B.returns
  have hts := atoms_spec (ws := wsL_clause) B.pre
  have hown : s.vm.findClass RL = some m.cls := findClass_of_methodNamed B.named
  have htb := xhand B (hts _ List.mem_cons_self)
  have hS : va_S xN s.heap s.heap [] := va_S.rf
  have hl := lv_entry [.ref (ad 0), .int w, .int a1, .int a2, .int a3, .int a4, .ref (ad 15)] (n := 8) (Nat.le_of_ble_eq_true rfl)
  rw [lg_entry_eq]
  generalize (lg_sl [.ref (ad 0), .int w, .int a1, .int a2, .int a3, .int a4, .ref (ad 15)] ++ List.replicate (8 - (lg_sl [.ref (ad 0), .int w, .int a1, .int a2, .int a3, .int a4, .ref (ad 15)]).length) Slot.unset).toArray = ls at hl ⊢
  have hl : lv_has ls 8 [(0, .ref (ad 0)), (1, .int w), (2, .int a1), (3, .int a2), (4, .int a3), (5, .int a4), (6, .ref (ad 15))] := hl
  refine lv_aload hx hb dL_clause_0 (lv_at hl 6 rfl) ?_
  refine lv_iconst (v := 0) hx hb dL_clause_2 (by decide) ?_
  refine lv_aload_n hx hb dL_clause_3 rfl (lv_at hl 0 rfl) ?_
  refine lv_iload_n hx hb dL_clause_4 rfl (lv_at hl 1 rfl) ?_
  refine lv_iload_n hx hb dL_clause_5 rfl (lv_at hl 2 rfl) ?_
  refine lv_iload_n hx hb dL_clause_6 rfl (lv_at hl 3 rfl) ?_
  refine lv_iload hx hb dL_clause_7 (lv_at hl 4 rfl) ?_
  refine lv_iload hx hb dL_clause_9 (lv_at hl 5 rfl) ?_
  refine xcatch (ws' := []) (As := [.int w, .int a1, .int a2, .int a3, .int a4]) (rest := [.int 0, .ref (ad 15)]) (hp := 19) (c_clause_x1 l dC dI cI cL cZ ad (hinj.le (by omega)) hlt nv av nc mt mf wt lz nd lc bc bv lh lw lb wh wv wc hnc w a1 a2 a3 a4 hw) ⟨hx, hb, hml, hown, hts⟩ (xcwV 5 hts wd_367 wd_34 wd_364 wd_365 wd_366 rfl rfl (by decide +kernel) ⟨Nat.le_of_ble_eq_true rfl, Nat.le_of_ble_eq_true rfl⟩) (xpreV1 (va_recv hK hP rfl (q0 := 0) rfl) hP hK hE (fun _ _ => rfl)) rfl hl.1 rfl (Nat.le_of_ble_eq_true rfl) dL_clause_11 ⟨Nat.le_of_ble_eq_true rfl, Nat.le_of_ble_eq_true rfl⟩ (xTab1 B.admits hown (hts _ (List.mem_cons_of_mem _ wd_362)) (hE _ (by simp [xex])) htb (by decide) (by decide)) (fun x H1 hk hsz => ?_)
  refine lv_astore (lv' := ((7, .ref x) :: [(0, .ref (ad 0)), (1, .int w), (2, .int a1), (3, .int a2), (4, .int a3), (5, .int a4), (6, .ref (ad 15))])) hx hb dL_clause_19 hl (by decide) rfl (fun ls hl => ?_)
  refine lv_iconst (v := 1) hx hb dL_clause_21 (by decide) ?_
  exact W.iret (v := 1) hx hb hr (fun t ht hW => ⟨⟨_, (), rfl, rfl, trivial⟩, by rw [ht]; exact hsz, fun q hq _ => by rw [ht]; exact hk q hq⟩) (fun q hq => by cases hq) dL_clause_22
set_option maxHeartbeats 4000000 in
set_option maxRecDepth 100000 in
theorem h_clause_x2 (l : Launch) (dC : Nat → ClassId) (dI : Nat → Nat → Nat) (cI cL cZ : ClassId) (ad : Nat → Nat) (hinj : xI ad 16) (hlt : ∀ e : Env, l.admits e → e.platform.stackTraces = false) (nv : Nat) (av : Int32) (nc : Nat) (mt mf wt : Nat → Int32) (lz : Nat) (nd : Int32) (lc : Nat) (bc : Int64) (bv : Int32) (lh lw : Nat → Int32) (lb : Nat → Int64) (wh wv : Nat → Int32) (wc : Nat) (hnc : nc ≤ 40) (w a1 a2 a3 a4 : Int32) (hw : ¬ f_isWeight w = 0) (ha : f_areLiterals nv a1 a2 a3 a4 = 0) : Met l yL_clause wsL_clause ({ frames := 7, cells := 1, slots := 6, locals := 117 }) (va_Pc [.ref (ad 0), .int w, .int a1, .int a2, .int a3, .int a4, .ref (ad 15)] (fun U => va_P (dC, dI) vwCl [(ad 0, .inr (3, [.ref (ad 1), .ref (ad 5), .ref (ad 9)])), (ad 1, .inr (1, [.int (nI nv), .int av, .int (nI nc), .ref (ad 2), .ref (ad 3), .ref (ad 4)])), (ad 2, .inl (cI, 40, .inl mt)), (ad 3, .inl (cI, 40, .inl mf)), (ad 4, .inl (cI, 40, .inl wt)), (ad 9, .inr (2, [.int nd, .int (nI lc), .long bc, .int bv, .ref (ad 10), .ref (ad 11), .ref (ad 12), .ref (ad 1), .ref (ad 5), .ref (ad 13), .ref (ad 14), .int (nI wc)])), (ad 10, .inl (cI, lz, .inl lh)), (ad 11, .inl (cI, lz, .inl lw)), (ad 12, .inl (cL, lz, .inr (.inl lb))), (ad 13, .inl (cI, 11, .inl wh)), (ad 14, .inl (cI, 11, .inl wv))] U.heap ∧ va_K (dC, dI) vwCl [(cI, .int), (cL, .long), (cZ, .boolean)] U ∧ xEx U ∧ xNo U)) (va_Qi (fun r (_ : Unit) => (1 : Int32) = r) (fun _ _ => True) xN) 1 6 xN := by
  refine va_MetW (hh := [(0, 16, 19, 13), (0, 16, 23, 15)]) (cc := cL_clause) (maxL := 8) (ret := (some .int)) (by decide) rfl ?_
  intro p e s m args below meth c s₁ B hml hvv
  obtain ⟨rfl, hP, hK, hE, hN⟩ := hvv
  have hx := B.exec
  have hb := B.bytes
  have hr := B.returns
  have hts := atoms_spec (ws := wsL_clause) B.pre
  have hown : s.vm.findClass RL = some m.cls := findClass_of_methodNamed B.named
  have htb := xhand B (hts _ List.mem_cons_self)
  have hS : va_S xN s.heap s.heap [] := va_S.rf
  have hl := lv_entry [.ref (ad 0), .int w, .int a1, .int a2, .int a3, .int a4, .ref (ad 15)] (n := 8) (Nat.le_of_ble_eq_true rfl)
  rw [lg_entry_eq]
  generalize (lg_sl [.ref (ad 0), .int w, .int a1, .int a2, .int a3, .int a4, .ref (ad 15)] ++ List.replicate (8 - (lg_sl [.ref (ad 0), .int w, .int a1, .int a2, .int a3, .int a4, .ref (ad 15)]).length) Slot.unset).toArray = ls at hl ⊢
  have hl : lv_has ls 8 [(0, .ref (ad 0)), (1, .int w), (2, .int a1), (3, .int a2), (4, .int a3), (5, .int a4), (6, .ref (ad 15))] := hl
  refine lv_aload hx hb dL_clause_0 (lv_at hl 6 rfl) ?_
  refine lv_iconst (v := 0) hx hb dL_clause_2 (by decide) ?_
  refine lv_aload_n hx hb dL_clause_3 rfl (lv_at hl 0 rfl) ?_
  refine lv_iload_n hx hb dL_clause_4 rfl (lv_at hl 1 rfl) ?_
  refine lv_iload_n hx hb dL_clause_5 rfl (lv_at hl 2 rfl) ?_
  refine lv_iload_n hx hb dL_clause_6 rfl (lv_at hl 3 rfl) ?_
  refine lv_iload hx hb dL_clause_7 (lv_at hl 4 rfl) ?_
  refine lv_iload hx hb dL_clause_9 (lv_at hl 5 rfl) ?_
  refine xcatch (ws' := []) (As := [.int w, .int a1, .int a2, .int a3, .int a4]) (rest := [.int 0, .ref (ad 15)]) (hp := 19) (c_clause_x2 l dC dI cI cL cZ ad (hinj.le (by omega)) hlt nv av nc mt mf wt lz nd lc bc bv lh lw lb wh wv wc hnc w a1 a2 a3 a4 hw ha) ⟨hx, hb, hml, hown, hts⟩ (xcwV 5 hts wd_367 wd_34 wd_364 wd_365 wd_366 rfl rfl (by decide +kernel) ⟨Nat.le_of_ble_eq_true rfl, Nat.le_of_ble_eq_true rfl⟩) (xpreV1 (va_recv hK hP rfl (q0 := 0) rfl) hP hK hE (fun _ _ => rfl)) rfl hl.1 rfl (Nat.le_of_ble_eq_true rfl) dL_clause_11 ⟨Nat.le_of_ble_eq_true rfl, Nat.le_of_ble_eq_true rfl⟩ (xTab1 B.admits hown (hts _ (List.mem_cons_of_mem _ wd_362)) (hE _ (by simp [xex])) htb (by decide) (by decide)) (fun x H1 hk hsz => ?_)
  refine lv_astore (lv' := ((7, .ref x) :: [(0, .ref (ad 0)), (1, .int w), (2, .int a1), (3, .int a2), (4, .int a3), (5, .int a4), (6, .ref (ad 15))])) hx hb dL_clause_19 hl (by decide) rfl (fun ls hl => ?_)
  refine lv_iconst (v := 1) hx hb dL_clause_21 (by decide) ?_
  exact W.iret (v := 1) hx hb hr (fun t ht hW => ⟨⟨_, (), rfl, rfl, trivial⟩, by rw [ht]; exact hsz, fun q hq _ => by rw [ht]; exact hk q hq⟩) (fun q hq => by cases hq) dL_clause_22
set_option maxHeartbeats 4000000 in
set_option maxRecDepth 100000 in
theorem h_clause_x3 (l : Launch) (dC : Nat → ClassId) (dI : Nat → Nat → Nat) (cI cL cZ : ClassId) (ad : Nat → Nat) (hinj : xI ad 16) (hlt : ∀ e : Env, l.admits e → e.platform.stackTraces = false) (nv : Nat) (av : Int32) (nc : Nat) (mt mf wt : Nat → Int32) (lz : Nat) (nd : Int32) (lc : Nat) (bc : Int64) (bv : Int32) (lh lw : Nat → Int32) (lb : Nat → Int64) (wh wv : Nat → Int32) (wc : Nat) (hnc : nc ≤ 40) (w a1 a2 a3 a4 : Int32) (hw : ¬ f_isWeight w = 0) (ha : ¬ f_areLiterals nv a1 a2 a3 a4 = 0) (hc : ¬ nI nc < 40) : Met l yL_clause wsL_clause ({ frames := 7, cells := 1, slots := 6, locals := 117 }) (va_Pc [.ref (ad 0), .int w, .int a1, .int a2, .int a3, .int a4, .ref (ad 15)] (fun U => va_P (dC, dI) vwCl [(ad 0, .inr (3, [.ref (ad 1), .ref (ad 5), .ref (ad 9)])), (ad 1, .inr (1, [.int (nI nv), .int av, .int (nI nc), .ref (ad 2), .ref (ad 3), .ref (ad 4)])), (ad 2, .inl (cI, 40, .inl mt)), (ad 3, .inl (cI, 40, .inl mf)), (ad 4, .inl (cI, 40, .inl wt)), (ad 9, .inr (2, [.int nd, .int (nI lc), .long bc, .int bv, .ref (ad 10), .ref (ad 11), .ref (ad 12), .ref (ad 1), .ref (ad 5), .ref (ad 13), .ref (ad 14), .int (nI wc)])), (ad 10, .inl (cI, lz, .inl lh)), (ad 11, .inl (cI, lz, .inl lw)), (ad 12, .inl (cL, lz, .inr (.inl lb))), (ad 13, .inl (cI, 11, .inl wh)), (ad 14, .inl (cI, 11, .inl wv))] U.heap ∧ va_K (dC, dI) vwCl [(cI, .int), (cL, .long), (cZ, .boolean)] U ∧ xEx U ∧ xNo U)) (va_Qi (fun r (_ : Unit) => (2 : Int32) = r) (fun _ _ => True) xN) 1 6 xN := by
  refine va_MetW (hh := [(0, 16, 19, 13), (0, 16, 23, 15)]) (cc := cL_clause) (maxL := 8) (ret := (some .int)) (by decide) rfl ?_
  intro p e s m args below meth c s₁ B hml hvv
  obtain ⟨rfl, hP, hK, hE, hN⟩ := hvv
  have hx := B.exec
  have hb := B.bytes
  have hr := B.returns
  have hts := atoms_spec (ws := wsL_clause) B.pre
  have hown : s.vm.findClass RL = some m.cls := findClass_of_methodNamed B.named
  have htb := xhand B (hts _ List.mem_cons_self)
  have hS : va_S xN s.heap s.heap [] := va_S.rf
  have hl := lv_entry [.ref (ad 0), .int w, .int a1, .int a2, .int a3, .int a4, .ref (ad 15)] (n := 8) (Nat.le_of_ble_eq_true rfl)
  rw [lg_entry_eq]
  generalize (lg_sl [.ref (ad 0), .int w, .int a1, .int a2, .int a3, .int a4, .ref (ad 15)] ++ List.replicate (8 - (lg_sl [.ref (ad 0), .int w, .int a1, .int a2, .int a3, .int a4, .ref (ad 15)]).length) Slot.unset).toArray = ls at hl ⊢
  have hl : lv_has ls 8 [(0, .ref (ad 0)), (1, .int w), (2, .int a1), (3, .int a2), (4, .int a3), (5, .int a4), (6, .ref (ad 15))] := hl
  refine lv_aload hx hb dL_clause_0 (lv_at hl 6 rfl) ?_
  refine lv_iconst (v := 0) hx hb dL_clause_2 (by decide) ?_
  refine lv_aload_n hx hb dL_clause_3 rfl (lv_at hl 0 rfl) ?_
  refine lv_iload_n hx hb dL_clause_4 rfl (lv_at hl 1 rfl) ?_
  refine lv_iload_n hx hb dL_clause_5 rfl (lv_at hl 2 rfl) ?_
  refine lv_iload_n hx hb dL_clause_6 rfl (lv_at hl 3 rfl) ?_
  refine lv_iload hx hb dL_clause_7 (lv_at hl 4 rfl) ?_
  refine lv_iload hx hb dL_clause_9 (lv_at hl 5 rfl) ?_
  refine xcatch (ws' := []) (As := [.int w, .int a1, .int a2, .int a3, .int a4]) (rest := [.int 0, .ref (ad 15)]) (hp := 23) (c_clause_x3 l dC dI cI cL cZ ad (hinj.le (by omega)) hlt nv av nc mt mf wt lz nd lc bc bv lh lw lb wh wv wc hnc w a1 a2 a3 a4 hw ha hc) ⟨hx, hb, hml, hown, hts⟩ (xcwV 5 hts wd_367 wd_34 wd_364 wd_365 wd_366 rfl rfl (by decide +kernel) ⟨Nat.le_of_ble_eq_true rfl, Nat.le_of_ble_eq_true rfl⟩) (xpreV1 (va_recv hK hP rfl (q0 := 0) rfl) hP hK hE (fun _ _ => rfl)) rfl hl.1 rfl (Nat.le_of_ble_eq_true rfl) dL_clause_11 ⟨Nat.le_of_ble_eq_true rfl, Nat.le_of_ble_eq_true rfl⟩ (xTab2 B.admits hown (hts _ (List.mem_cons_of_mem _ wd_362)) (hts _ (List.mem_cons_of_mem _ wd_363)) (hE _ (by simp [xex])) hN htb (by decide) (by decide) (by decide) (by decide)) (fun x H1 hk hsz => ?_)
  refine lv_astore (lv' := ((7, .ref x) :: [(0, .ref (ad 0)), (1, .int w), (2, .int a1), (3, .int a2), (4, .int a3), (5, .int a4), (6, .ref (ad 15))])) hx hb dL_clause_23 hl (by decide) rfl (fun ls hl => ?_)
  refine lv_iconst (v := 2) hx hb dL_clause_25 (by decide) ?_
  exact W.iret (v := 2) hx hb hr (fun t ht hW => ⟨⟨_, (), rfl, rfl, trivial⟩, by rw [ht]; exact hsz, fun q hq _ => by rw [ht]; exact hk q hq⟩) (fun q hq => by cases hq) dL_clause_26
set_option maxHeartbeats 4000000 in
set_option maxRecDepth 100000 in
theorem h_weigh_x1 (l : Launch) (dC : Nat → ClassId) (dI : Nat → Nat → Nat) (cI cL cZ : ClassId) (ad : Nat → Nat) (hinj : xI ad 16) (hlt : ∀ e : Env, l.admits e → e.platform.stackTraces = false) (nv : Nat) (av : Int32) (nc : Nat) (mt mf wt : Nat → Int32) (lz : Nat) (nd : Int32) (lc : Nat) (bc : Int64) (bv : Int32) (lh lw : Nat → Int32) (lb : Nat → Int64) (wh wv : Nat → Int32) (wc : Nat) (hnc : nc ≤ 40) (k w : Int32) (hk1 : k < 0) : Met l yL_weigh wsL_weigh ({ frames := 7, cells := 1, slots := 6, locals := 112 }) (va_Pc [.ref (ad 0), .int k, .int w, .ref (ad 15)] (fun U => va_P (dC, dI) vwCl [(ad 0, .inr (3, [.ref (ad 1), .ref (ad 5), .ref (ad 9)])), (ad 1, .inr (1, [.int (nI nv), .int av, .int (nI nc), .ref (ad 2), .ref (ad 3), .ref (ad 4)])), (ad 2, .inl (cI, 40, .inl mt)), (ad 3, .inl (cI, 40, .inl mf)), (ad 4, .inl (cI, 40, .inl wt)), (ad 9, .inr (2, [.int nd, .int (nI lc), .long bc, .int bv, .ref (ad 10), .ref (ad 11), .ref (ad 12), .ref (ad 1), .ref (ad 5), .ref (ad 13), .ref (ad 14), .int (nI wc)])), (ad 10, .inl (cI, lz, .inl lh)), (ad 11, .inl (cI, lz, .inl lw)), (ad 12, .inl (cL, lz, .inr (.inl lb))), (ad 13, .inl (cI, 11, .inl wh)), (ad 14, .inl (cI, 11, .inl wv))] U.heap ∧ va_K (dC, dI) vwCl [(cI, .int), (cL, .long), (cZ, .boolean)] U ∧ xEx U ∧ xNo U)) (va_Qi (fun r (_ : Unit) => (1 : Int32) = r) (fun _ _ => True) xN) 1 6 xN := by
  refine va_MetW (hh := [(0, 10, 13, 13)]) (cc := cL_weigh) (maxL := 5) (ret := (some .int)) (by decide) rfl ?_
  intro p e s m args below meth c s₁ B hml hvv
  obtain ⟨rfl, hP, hK, hE, hN⟩ := hvv
  have hx := B.exec
  have hb := B.bytes
  have hr := B.returns
  have hts := atoms_spec (ws := wsL_weigh) B.pre
  have hown : s.vm.findClass RL = some m.cls := findClass_of_methodNamed B.named
  have htb := xhand B (hts _ List.mem_cons_self)
  have hS : va_S xN s.heap s.heap [] := va_S.rf
  have hl := lv_entry [.ref (ad 0), .int k, .int w, .ref (ad 15)] (n := 5) (Nat.le_of_ble_eq_true rfl)
  rw [lg_entry_eq]
  generalize (lg_sl [.ref (ad 0), .int k, .int w, .ref (ad 15)] ++ List.replicate (5 - (lg_sl [.ref (ad 0), .int k, .int w, .ref (ad 15)]).length) Slot.unset).toArray = ls at hl ⊢
  have hl : lv_has ls 5 [(0, .ref (ad 0)), (1, .int k), (2, .int w), (3, .ref (ad 15))] := hl
  refine lv_aload_n hx hb dL_weigh_0 rfl (lv_at hl 3 rfl) ?_
  refine lv_iconst (v := 0) hx hb dL_weigh_1 (by decide) ?_
  refine lv_aload_n hx hb dL_weigh_2 rfl (lv_at hl 0 rfl) ?_
  refine lv_iload_n hx hb dL_weigh_3 rfl (lv_at hl 1 rfl) ?_
  refine lv_iload_n hx hb dL_weigh_4 rfl (lv_at hl 2 rfl) ?_
  refine xcatch (ws' := []) (As := [.int k, .int w]) (rest := [.int 0, .ref (ad 15)]) (hp := 13) (c_weigh_x1 l dC dI cI cL cZ ad (hinj.le (by omega)) hlt nv av nc mt mf wt lz nd lc bc bv lh lw lb wh wv wc hnc k w hk1) ⟨hx, hb, hml, hown, hts⟩ (xcwV 2 hts wd_480 wd_34 wd_477 wd_478 wd_479 rfl rfl (by decide +kernel) ⟨Nat.le_of_ble_eq_true rfl, Nat.le_of_ble_eq_true rfl⟩) (xpreV1 (va_recv hK hP rfl (q0 := 0) rfl) hP hK hE (fun _ _ => rfl)) rfl hl.1 rfl (Nat.le_of_ble_eq_true rfl) dL_weigh_5 ⟨Nat.le_of_ble_eq_true rfl, Nat.le_of_ble_eq_true rfl⟩ (xTab1 B.admits hown (hts _ (List.mem_cons_of_mem _ wd_362)) (hE _ (by simp [xex])) htb (by decide) (by decide)) (fun x H1 hk hsz => ?_)
  refine lv_astore (lv' := ((4, .ref x) :: [(0, .ref (ad 0)), (1, .int k), (2, .int w), (3, .ref (ad 15))])) hx hb dL_weigh_13 hl (by decide) rfl (fun ls hl => ?_)
  refine lv_iconst (v := 1) hx hb dL_weigh_15 (by decide) ?_
  exact W.iret (v := 1) hx hb hr (fun t ht hW => ⟨⟨_, (), rfl, rfl, trivial⟩, by rw [ht]; exact hsz, fun q hq _ => by rw [ht]; exact hk q hq⟩) (fun q hq => by cases hq) dL_weigh_16
set_option maxHeartbeats 4000000 in
set_option maxRecDepth 100000 in
theorem h_weigh_x2 (l : Launch) (dC : Nat → ClassId) (dI : Nat → Nat → Nat) (cI cL cZ : ClassId) (ad : Nat → Nat) (hinj : xI ad 16) (hlt : ∀ e : Env, l.admits e → e.platform.stackTraces = false) (nv : Nat) (av : Int32) (nc : Nat) (mt mf wt : Nat → Int32) (lz : Nat) (nd : Int32) (lc : Nat) (bc : Int64) (bv : Int32) (lh lw : Nat → Int32) (lb : Nat → Int64) (wh wv : Nat → Int32) (wc : Nat) (hnc : nc ≤ 40) (k w : Int32) (hk1 : ¬ k < 0) (hk2 : nI nc ≤ k) : Met l yL_weigh wsL_weigh ({ frames := 7, cells := 1, slots := 6, locals := 112 }) (va_Pc [.ref (ad 0), .int k, .int w, .ref (ad 15)] (fun U => va_P (dC, dI) vwCl [(ad 0, .inr (3, [.ref (ad 1), .ref (ad 5), .ref (ad 9)])), (ad 1, .inr (1, [.int (nI nv), .int av, .int (nI nc), .ref (ad 2), .ref (ad 3), .ref (ad 4)])), (ad 2, .inl (cI, 40, .inl mt)), (ad 3, .inl (cI, 40, .inl mf)), (ad 4, .inl (cI, 40, .inl wt)), (ad 9, .inr (2, [.int nd, .int (nI lc), .long bc, .int bv, .ref (ad 10), .ref (ad 11), .ref (ad 12), .ref (ad 1), .ref (ad 5), .ref (ad 13), .ref (ad 14), .int (nI wc)])), (ad 10, .inl (cI, lz, .inl lh)), (ad 11, .inl (cI, lz, .inl lw)), (ad 12, .inl (cL, lz, .inr (.inl lb))), (ad 13, .inl (cI, 11, .inl wh)), (ad 14, .inl (cI, 11, .inl wv))] U.heap ∧ va_K (dC, dI) vwCl [(cI, .int), (cL, .long), (cZ, .boolean)] U ∧ xEx U ∧ xNo U)) (va_Qi (fun r (_ : Unit) => (1 : Int32) = r) (fun _ _ => True) xN) 1 6 xN := by
  refine va_MetW (hh := [(0, 10, 13, 13)]) (cc := cL_weigh) (maxL := 5) (ret := (some .int)) (by decide) rfl ?_
  intro p e s m args below meth c s₁ B hml hvv
  obtain ⟨rfl, hP, hK, hE, hN⟩ := hvv
  have hx := B.exec
  have hb := B.bytes
  have hr := B.returns
  have hts := atoms_spec (ws := wsL_weigh) B.pre
  have hown : s.vm.findClass RL = some m.cls := findClass_of_methodNamed B.named
  have htb := xhand B (hts _ List.mem_cons_self)
  have hS : va_S xN s.heap s.heap [] := va_S.rf
  have hl := lv_entry [.ref (ad 0), .int k, .int w, .ref (ad 15)] (n := 5) (Nat.le_of_ble_eq_true rfl)
  rw [lg_entry_eq]
  generalize (lg_sl [.ref (ad 0), .int k, .int w, .ref (ad 15)] ++ List.replicate (5 - (lg_sl [.ref (ad 0), .int k, .int w, .ref (ad 15)]).length) Slot.unset).toArray = ls at hl ⊢
  have hl : lv_has ls 5 [(0, .ref (ad 0)), (1, .int k), (2, .int w), (3, .ref (ad 15))] := hl
  refine lv_aload_n hx hb dL_weigh_0 rfl (lv_at hl 3 rfl) ?_
  refine lv_iconst (v := 0) hx hb dL_weigh_1 (by decide) ?_
  refine lv_aload_n hx hb dL_weigh_2 rfl (lv_at hl 0 rfl) ?_
  refine lv_iload_n hx hb dL_weigh_3 rfl (lv_at hl 1 rfl) ?_
  refine lv_iload_n hx hb dL_weigh_4 rfl (lv_at hl 2 rfl) ?_
  refine xcatch (ws' := []) (As := [.int k, .int w]) (rest := [.int 0, .ref (ad 15)]) (hp := 13) (c_weigh_x2 l dC dI cI cL cZ ad (hinj.le (by omega)) hlt nv av nc mt mf wt lz nd lc bc bv lh lw lb wh wv wc hnc k w hk1 hk2) ⟨hx, hb, hml, hown, hts⟩ (xcwV 2 hts wd_480 wd_34 wd_477 wd_478 wd_479 rfl rfl (by decide +kernel) ⟨Nat.le_of_ble_eq_true rfl, Nat.le_of_ble_eq_true rfl⟩) (xpreV1 (va_recv hK hP rfl (q0 := 0) rfl) hP hK hE (fun _ _ => rfl)) rfl hl.1 rfl (Nat.le_of_ble_eq_true rfl) dL_weigh_5 ⟨Nat.le_of_ble_eq_true rfl, Nat.le_of_ble_eq_true rfl⟩ (xTab1 B.admits hown (hts _ (List.mem_cons_of_mem _ wd_362)) (hE _ (by simp [xex])) htb (by decide) (by decide)) (fun x H1 hk hsz => ?_)
  refine lv_astore (lv' := ((4, .ref x) :: [(0, .ref (ad 0)), (1, .int k), (2, .int w), (3, .ref (ad 15))])) hx hb dL_weigh_13 hl (by decide) rfl (fun ls hl => ?_)
  refine lv_iconst (v := 1) hx hb dL_weigh_15 (by decide) ?_
  exact W.iret (v := 1) hx hb hr (fun t ht hW => ⟨⟨_, (), rfl, rfl, trivial⟩, by rw [ht]; exact hsz, fun q hq _ => by rw [ht]; exact hk q hq⟩) (fun q hq => by cases hq) dL_weigh_16
set_option maxHeartbeats 4000000 in
set_option maxRecDepth 100000 in
theorem h_weigh_x3 (l : Launch) (dC : Nat → ClassId) (dI : Nat → Nat → Nat) (cI cL cZ : ClassId) (ad : Nat → Nat) (hinj : xI ad 16) (hlt : ∀ e : Env, l.admits e → e.platform.stackTraces = false) (nv : Nat) (av : Int32) (nc : Nat) (mt mf wt : Nat → Int32) (lz : Nat) (nd : Int32) (lc : Nat) (bc : Int64) (bv : Int32) (lh lw : Nat → Int32) (lb : Nat → Int64) (wh wv : Nat → Int32) (wc : Nat) (hnc : nc ≤ 40) (k w : Int32) (hk1 : ¬ k < 0) (hk2 : ¬ nI nc ≤ k) (hw : f_isWeight w = 0) : Met l yL_weigh wsL_weigh ({ frames := 7, cells := 1, slots := 6, locals := 112 }) (va_Pc [.ref (ad 0), .int k, .int w, .ref (ad 15)] (fun U => va_P (dC, dI) vwCl [(ad 0, .inr (3, [.ref (ad 1), .ref (ad 5), .ref (ad 9)])), (ad 1, .inr (1, [.int (nI nv), .int av, .int (nI nc), .ref (ad 2), .ref (ad 3), .ref (ad 4)])), (ad 2, .inl (cI, 40, .inl mt)), (ad 3, .inl (cI, 40, .inl mf)), (ad 4, .inl (cI, 40, .inl wt)), (ad 9, .inr (2, [.int nd, .int (nI lc), .long bc, .int bv, .ref (ad 10), .ref (ad 11), .ref (ad 12), .ref (ad 1), .ref (ad 5), .ref (ad 13), .ref (ad 14), .int (nI wc)])), (ad 10, .inl (cI, lz, .inl lh)), (ad 11, .inl (cI, lz, .inl lw)), (ad 12, .inl (cL, lz, .inr (.inl lb))), (ad 13, .inl (cI, 11, .inl wh)), (ad 14, .inl (cI, 11, .inl wv))] U.heap ∧ va_K (dC, dI) vwCl [(cI, .int), (cL, .long), (cZ, .boolean)] U ∧ xEx U ∧ xNo U)) (va_Qi (fun r (_ : Unit) => (1 : Int32) = r) (fun _ _ => True) xN) 1 6 xN := by
  refine va_MetW (hh := [(0, 10, 13, 13)]) (cc := cL_weigh) (maxL := 5) (ret := (some .int)) (by decide) rfl ?_
  intro p e s m args below meth c s₁ B hml hvv
  obtain ⟨rfl, hP, hK, hE, hN⟩ := hvv
  have hx := B.exec
  have hb := B.bytes
  have hr := B.returns
  have hts := atoms_spec (ws := wsL_weigh) B.pre
  have hown : s.vm.findClass RL = some m.cls := findClass_of_methodNamed B.named
  have htb := xhand B (hts _ List.mem_cons_self)
  have hS : va_S xN s.heap s.heap [] := va_S.rf
  have hl := lv_entry [.ref (ad 0), .int k, .int w, .ref (ad 15)] (n := 5) (Nat.le_of_ble_eq_true rfl)
  rw [lg_entry_eq]
  generalize (lg_sl [.ref (ad 0), .int k, .int w, .ref (ad 15)] ++ List.replicate (5 - (lg_sl [.ref (ad 0), .int k, .int w, .ref (ad 15)]).length) Slot.unset).toArray = ls at hl ⊢
  have hl : lv_has ls 5 [(0, .ref (ad 0)), (1, .int k), (2, .int w), (3, .ref (ad 15))] := hl
  refine lv_aload_n hx hb dL_weigh_0 rfl (lv_at hl 3 rfl) ?_
  refine lv_iconst (v := 0) hx hb dL_weigh_1 (by decide) ?_
  refine lv_aload_n hx hb dL_weigh_2 rfl (lv_at hl 0 rfl) ?_
  refine lv_iload_n hx hb dL_weigh_3 rfl (lv_at hl 1 rfl) ?_
  refine lv_iload_n hx hb dL_weigh_4 rfl (lv_at hl 2 rfl) ?_
  refine xcatch (ws' := []) (As := [.int k, .int w]) (rest := [.int 0, .ref (ad 15)]) (hp := 13) (c_weigh_x3 l dC dI cI cL cZ ad (hinj.le (by omega)) hlt nv av nc mt mf wt lz nd lc bc bv lh lw lb wh wv wc hnc k w hk1 hk2 hw) ⟨hx, hb, hml, hown, hts⟩ (xcwV 2 hts wd_480 wd_34 wd_477 wd_478 wd_479 rfl rfl (by decide +kernel) ⟨Nat.le_of_ble_eq_true rfl, Nat.le_of_ble_eq_true rfl⟩) (xpreV1 (va_recv hK hP rfl (q0 := 0) rfl) hP hK hE (fun _ _ => rfl)) rfl hl.1 rfl (Nat.le_of_ble_eq_true rfl) dL_weigh_5 ⟨Nat.le_of_ble_eq_true rfl, Nat.le_of_ble_eq_true rfl⟩ (xTab1 B.admits hown (hts _ (List.mem_cons_of_mem _ wd_362)) (hE _ (by simp [xex])) htb (by decide) (by decide)) (fun x H1 hk hsz => ?_)
  refine lv_astore (lv' := ((4, .ref x) :: [(0, .ref (ad 0)), (1, .int k), (2, .int w), (3, .ref (ad 15))])) hx hb dL_weigh_13 hl (by decide) rfl (fun ls hl => ?_)
  refine lv_iconst (v := 1) hx hb dL_weigh_15 (by decide) ?_
  exact W.iret (v := 1) hx hb hr (fun t ht hW => ⟨⟨_, (), rfl, rfl, trivial⟩, by rw [ht]; exact hsz, fun q hq _ => by rw [ht]; exact hk q hq⟩) (fun q hq => by cases hq) dL_weigh_16
set_option maxHeartbeats 4000000 in
set_option maxRecDepth 100000 in
theorem h_cost_x (l : Launch) (dC : Nat → ClassId) (dI : Nat → Nat → Nat) (cI cL cZ : ClassId) (ad : Nat → Nat) (hinj : xI ad 16) (hlt : ∀ e : Env, l.admits e → e.platform.stackTraces = false) (nv : Nat) (av : Int32) (nc : Nat) (mt mf wt : Nat → Int32) (hnc : nc ≤ 40) (hnv : nv ≤ 10) (hv vl : Int32)  (hbad : f_isState av hv vl = 0) : Met l yL_cost wsL_cost ({ frames := 7, cells := 1, slots := 6, locals := 112 }) (va_Pc [.ref (ad 0), .int hv, .int vl, .ref (ad 15)] (fun U => va_P (dC, dI) vwCl [(ad 0, .inr (3, [.ref (ad 1), .ref (ad 5), .ref (ad 9)])), (ad 1, .inr (1, [.int (nI nv), .int av, .int (nI nc), .ref (ad 2), .ref (ad 3), .ref (ad 4)])), (ad 2, .inl (cI, 40, .inl mt)), (ad 3, .inl (cI, 40, .inl mf)), (ad 4, .inl (cI, 40, .inl wt))] U.heap ∧ va_K (dC, dI) vwCl [(cI, .int), (cL, .long), (cZ, .boolean)] U ∧ xEx U ∧ xNo U)) (va_Qi (fun r (_ : Unit) => (1 : Int32) = r) (fun _ _ => True) xN) 1 6 xN := by
  refine va_MetW (hh := [(0, 9, 12, 13)]) (cc := cL_cost) (maxL := 5) (ret := (some .int)) (by decide) rfl ?_
  intro p e s m args below meth c s₁ B hml hvv
  obtain ⟨rfl, hP, hK, hE, hN⟩ := hvv
  have hx := B.exec
  have hb := B.bytes
  have hr := B.returns
  have hts := atoms_spec (ws := wsL_cost) B.pre
  have hown : s.vm.findClass RL = some m.cls := findClass_of_methodNamed B.named
  have htb := xhand B (hts _ List.mem_cons_self)
  have hS : va_S xN s.heap s.heap [] := va_S.rf
  have hl := lv_entry [.ref (ad 0), .int hv, .int vl, .ref (ad 15)] (n := 5) (Nat.le_of_ble_eq_true rfl)
  rw [lg_entry_eq]
  generalize (lg_sl [.ref (ad 0), .int hv, .int vl, .ref (ad 15)] ++ List.replicate (5 - (lg_sl [.ref (ad 0), .int hv, .int vl, .ref (ad 15)]).length) Slot.unset).toArray = ls at hl ⊢
  have hl : lv_has ls 5 [(0, .ref (ad 0)), (1, .int hv), (2, .int vl), (3, .ref (ad 15))] := hl
  refine lv_aload_n hx hb dL_cost_0 rfl (lv_at hl 3 rfl) ?_
  refine lv_iconst (v := 0) hx hb dL_cost_1 (by decide) ?_
  refine lv_aload_n hx hb dL_cost_2 rfl (lv_at hl 0 rfl) ?_
  refine lv_iload_n hx hb dL_cost_3 rfl (lv_at hl 1 rfl) ?_
  refine lv_iload_n hx hb dL_cost_4 rfl (lv_at hl 2 rfl) ?_
  refine xcatch (ws' := []) (As := [.int hv, .int vl]) (rest := [.int 0, .ref (ad 15)]) (hp := 12) (c_cost_x l dC dI cI cL cZ ad (hinj.le (by omega)) hlt nv av nc mt mf wt hnc hnv hv vl hbad) ⟨hx, hb, hml, hown, hts⟩ (xcwV 2 hts wd_491 wd_34 wd_488 wd_489 wd_490 rfl rfl (by decide +kernel) ⟨Nat.le_of_ble_eq_true rfl, Nat.le_of_ble_eq_true rfl⟩) (xpreV1 (va_recv hK hP rfl (q0 := 0) rfl) hP hK hE (fun _ _ => rfl)) rfl hl.1 rfl (Nat.le_of_ble_eq_true rfl) dL_cost_5 ⟨Nat.le_of_ble_eq_true rfl, Nat.le_of_ble_eq_true rfl⟩ (xTab1 B.admits hown (hts _ (List.mem_cons_of_mem _ wd_362)) (hE _ (by simp [xex])) htb (by decide) (by decide)) (fun x H1 hk hsz => ?_)
  refine lv_astore (lv' := ((4, .ref x) :: [(0, .ref (ad 0)), (1, .int hv), (2, .int vl), (3, .ref (ad 15))])) hx hb dL_cost_12 hl (by decide) rfl (fun ls hl => ?_)
  refine lv_iconst (v := 1) hx hb dL_cost_14 (by decide) ?_
  exact W.iret (v := 1) hx hb hr (fun t ht hW => ⟨⟨_, (), rfl, rfl, trivial⟩, by rw [ht]; exact hsz, fun q hq _ => by rw [ht]; exact hk q hq⟩) (fun q hq => by cases hq) dL_cost_15
set_option maxHeartbeats 4000000 in
set_option maxRecDepth 100000 in
theorem h_bound_x (l : Launch) (dC : Nat → ClassId) (dI : Nat → Nat → Nat) (cI cL cZ : ClassId) (ad : Nat → Nat) (hinj : xI ad 16) (hlt : ∀ e : Env, l.admits e → e.platform.stackTraces = false) (nv : Nat) (av : Int32) (nc : Nat) (mt mf wt : Nat → Int32) (hnc : nc ≤ 40) (hnv : nv ≤ 10) (hv vl : Int32)  (hbad : f_isState av hv vl = 0) : Met l yL_bound wsL_bound ({ frames := 7, cells := 1, slots := 6, locals := 112 }) (va_Pc [.ref (ad 0), .int hv, .int vl, .ref (ad 15)] (fun U => va_P (dC, dI) vwCl [(ad 0, .inr (3, [.ref (ad 1), .ref (ad 5), .ref (ad 9)])), (ad 1, .inr (1, [.int (nI nv), .int av, .int (nI nc), .ref (ad 2), .ref (ad 3), .ref (ad 4)])), (ad 2, .inl (cI, 40, .inl mt)), (ad 3, .inl (cI, 40, .inl mf)), (ad 4, .inl (cI, 40, .inl wt))] U.heap ∧ va_K (dC, dI) vwCl [(cI, .int), (cL, .long), (cZ, .boolean)] U ∧ xEx U ∧ xNo U)) (va_Qi (fun r (_ : Unit) => (1 : Int32) = r) (fun _ _ => True) xN) 1 6 xN := by
  refine va_MetW (hh := [(0, 9, 12, 13)]) (cc := cL_bound) (maxL := 5) (ret := (some .int)) (by decide) rfl ?_
  intro p e s m args below meth c s₁ B hml hvv
  obtain ⟨rfl, hP, hK, hE, hN⟩ := hvv
  have hx := B.exec
  have hb := B.bytes
  have hr := B.returns
  have hts := atoms_spec (ws := wsL_bound) B.pre
  have hown : s.vm.findClass RL = some m.cls := findClass_of_methodNamed B.named
  have htb := xhand B (hts _ List.mem_cons_self)
  have hS : va_S xN s.heap s.heap [] := va_S.rf
  have hl := lv_entry [.ref (ad 0), .int hv, .int vl, .ref (ad 15)] (n := 5) (Nat.le_of_ble_eq_true rfl)
  rw [lg_entry_eq]
  generalize (lg_sl [.ref (ad 0), .int hv, .int vl, .ref (ad 15)] ++ List.replicate (5 - (lg_sl [.ref (ad 0), .int hv, .int vl, .ref (ad 15)]).length) Slot.unset).toArray = ls at hl ⊢
  have hl : lv_has ls 5 [(0, .ref (ad 0)), (1, .int hv), (2, .int vl), (3, .ref (ad 15))] := hl
  refine lv_aload_n hx hb dL_bound_0 rfl (lv_at hl 3 rfl) ?_
  refine lv_iconst (v := 0) hx hb dL_bound_1 (by decide) ?_
  refine lv_aload_n hx hb dL_bound_2 rfl (lv_at hl 0 rfl) ?_
  refine lv_iload_n hx hb dL_bound_3 rfl (lv_at hl 1 rfl) ?_
  refine lv_iload_n hx hb dL_bound_4 rfl (lv_at hl 2 rfl) ?_
  refine xcatch (ws' := []) (As := [.int hv, .int vl]) (rest := [.int 0, .ref (ad 15)]) (hp := 12) (c_bound_x l dC dI cI cL cZ ad (hinj.le (by omega)) hlt nv av nc mt mf wt hnc hnv hv vl hbad) ⟨hx, hb, hml, hown, hts⟩ (xcwV 2 hts wd_503 wd_34 wd_500 wd_501 wd_502 rfl rfl (by decide +kernel) ⟨Nat.le_of_ble_eq_true rfl, Nat.le_of_ble_eq_true rfl⟩) (xpreV1 (va_recv hK hP rfl (q0 := 0) rfl) hP hK hE (fun _ _ => rfl)) rfl hl.1 rfl (Nat.le_of_ble_eq_true rfl) dL_bound_5 ⟨Nat.le_of_ble_eq_true rfl, Nat.le_of_ble_eq_true rfl⟩ (xTab1 B.admits hown (hts _ (List.mem_cons_of_mem _ wd_362)) (hE _ (by simp [xex])) htb (by decide) (by decide)) (fun x H1 hk hsz => ?_)
  refine lv_astore (lv' := ((4, .ref x) :: [(0, .ref (ad 0)), (1, .int hv), (2, .int vl), (3, .ref (ad 15))])) hx hb dL_bound_12 hl (by decide) rfl (fun ls hl => ?_)
  refine lv_iconst (v := 1) hx hb dL_bound_14 (by decide) ?_
  exact W.iret (v := 1) hx hb hr (fun t ht hW => ⟨⟨_, (), rfl, rfl, trivial⟩, by rw [ht]; exact hsz, fun q hq _ => by rw [ht]; exact hk q hq⟩) (fun q hq => by cases hq) dL_bound_15
set_option maxHeartbeats 4000000 in
set_option maxRecDepth 100000 in
theorem h_first_x (l : Launch) (dC : Nat → ClassId) (dI : Nat → Nat → Nat) (cI cL cZ : ClassId) (ad : Nat → Nat) (hinj : xI ad 16) (hlt : ∀ e : Env, l.admits e → e.platform.stackTraces = false) (nv : Nat) (av : Int32) (nc : Nat) (mt mf wt : Nat → Int32) (hnc : nc ≤ 40) (hnv : nv ≤ 10) (hv vl : Int32)  (hbad : f_isState av hv vl = 0) : Met l yL_first wsL_first ({ frames := 7, cells := 1, slots := 6, locals := 112 }) (va_Pc [.ref (ad 0), .int hv, .int vl, .ref (ad 15)] (fun U => va_P (dC, dI) vwCl [(ad 0, .inr (3, [.ref (ad 1), .ref (ad 5), .ref (ad 9)])), (ad 1, .inr (1, [.int (nI nv), .int av, .int (nI nc), .ref (ad 2), .ref (ad 3), .ref (ad 4)])), (ad 2, .inl (cI, 40, .inl mt)), (ad 3, .inl (cI, 40, .inl mf)), (ad 4, .inl (cI, 40, .inl wt))] U.heap ∧ va_K (dC, dI) vwCl [(cI, .int), (cL, .long), (cZ, .boolean)] U ∧ xEx U ∧ xNo U)) (va_Qi (fun r (_ : Unit) => (1 : Int32) = r) (fun _ _ => True) xN) 1 6 xN := by
  refine va_MetW (hh := [(0, 10, 13, 13)]) (cc := cL_first) (maxL := 5) (ret := (some .int)) (by decide) rfl ?_
  intro p e s m args below meth c s₁ B hml hvv
  obtain ⟨rfl, hP, hK, hE, hN⟩ := hvv
  have hx := B.exec
  have hb := B.bytes
  have hr := B.returns
  have hts := atoms_spec (ws := wsL_first) B.pre
  have hown : s.vm.findClass RL = some m.cls := findClass_of_methodNamed B.named
  have htb := xhand B (hts _ List.mem_cons_self)
  have hS : va_S xN s.heap s.heap [] := va_S.rf
  have hl := lv_entry [.ref (ad 0), .int hv, .int vl, .ref (ad 15)] (n := 5) (Nat.le_of_ble_eq_true rfl)
  rw [lg_entry_eq]
  generalize (lg_sl [.ref (ad 0), .int hv, .int vl, .ref (ad 15)] ++ List.replicate (5 - (lg_sl [.ref (ad 0), .int hv, .int vl, .ref (ad 15)]).length) Slot.unset).toArray = ls at hl ⊢
  have hl : lv_has ls 5 [(0, .ref (ad 0)), (1, .int hv), (2, .int vl), (3, .ref (ad 15))] := hl
  refine lv_aload_n hx hb dL_first_0 rfl (lv_at hl 3 rfl) ?_
  refine lv_iconst (v := 0) hx hb dL_first_1 (by decide) ?_
  refine lv_aload_n hx hb dL_first_2 rfl (lv_at hl 0 rfl) ?_
  refine lv_iload_n hx hb dL_first_3 rfl (lv_at hl 1 rfl) ?_
  refine lv_iload_n hx hb dL_first_4 rfl (lv_at hl 2 rfl) ?_
  refine xcatch (ws' := []) (As := [.int hv, .int vl]) (rest := [.int 0, .ref (ad 15)]) (hp := 13) (c_first_x l dC dI cI cL cZ ad (hinj.le (by omega)) hlt nv av nc mt mf wt hnc hnv hv vl hbad) ⟨hx, hb, hml, hown, hts⟩ (xcwV 2 hts wd_522 wd_34 wd_519 wd_520 wd_521 rfl rfl (by decide +kernel) ⟨Nat.le_of_ble_eq_true rfl, Nat.le_of_ble_eq_true rfl⟩) (xpreV1 (va_recv hK hP rfl (q0 := 0) rfl) hP hK hE (fun _ _ => rfl)) rfl hl.1 rfl (Nat.le_of_ble_eq_true rfl) dL_first_5 ⟨Nat.le_of_ble_eq_true rfl, Nat.le_of_ble_eq_true rfl⟩ (xTab1 B.admits hown (hts _ (List.mem_cons_of_mem _ wd_362)) (hE _ (by simp [xex])) htb (by decide) (by decide)) (fun x H1 hk hsz => ?_)
  refine lv_astore (lv' := ((4, .ref x) :: [(0, .ref (ad 0)), (1, .int hv), (2, .int vl), (3, .ref (ad 15))])) hx hb dL_first_13 hl (by decide) rfl (fun ls hl => ?_)
  refine lv_iconst (v := 1) hx hb dL_first_15 (by decide) ?_
  exact W.iret (v := 1) hx hb hr (fun t ht hW => ⟨⟨_, (), rfl, rfl, trivial⟩, by rw [ht]; exact hsz, fun q hq _ => by rw [ht]; exact hk q hq⟩) (fun q hq => by cases hq) dL_first_16
set_option maxHeartbeats 4000000 in
set_option maxRecDepth 100000 in
theorem h_subset_x (l : Launch) (dC : Nat → ClassId) (dI : Nat → Nat → Nat) (cI cL cZ : ClassId) (ad : Nat → Nat) (hinj : xI ad 16) (hlt : ∀ e : Env, l.admits e → e.platform.stackTraces = false) (nv : Nat) (av : Int32) (nc : Nat) (mt mf wt : Nat → Int32) (hnc : nc ≤ 40) (hnv : nv ≤ 10) (hv vl : Int32) (j : Int32)  (hbad : f_isState av hv vl = 0) : Met l yL_subset wsL_subset ({ frames := 7, cells := 1, slots := 6, locals := 113 }) (va_Pc [.ref (ad 0), .int hv, .int vl, .int j, .ref (ad 15)] (fun U => va_P (dC, dI) vwCl [(ad 0, .inr (3, [.ref (ad 1), .ref (ad 5), .ref (ad 9)])), (ad 1, .inr (1, [.int (nI nv), .int av, .int (nI nc), .ref (ad 2), .ref (ad 3), .ref (ad 4)])), (ad 2, .inl (cI, 40, .inl mt)), (ad 3, .inl (cI, 40, .inl mf)), (ad 4, .inl (cI, 40, .inl wt))] U.heap ∧ va_K (dC, dI) vwCl [(cI, .int), (cL, .long), (cZ, .boolean)] U ∧ xEx U ∧ xNo U)) (va_Qi (fun r (_ : Unit) => (1 : Int32) = r) (fun _ _ => True) xN) 1 6 xN := by
  refine va_MetW (hh := [(0, 11, 14, 13)]) (cc := cL_subset) (maxL := 6) (ret := (some .int)) (by decide) rfl ?_
  intro p e s m args below meth c s₁ B hml hvv
  obtain ⟨rfl, hP, hK, hE, hN⟩ := hvv
  have hx := B.exec
  have hb := B.bytes
  have hr := B.returns
  have hts := atoms_spec (ws := wsL_subset) B.pre
  have hown : s.vm.findClass RL = some m.cls := findClass_of_methodNamed B.named
  have htb := xhand B (hts _ List.mem_cons_self)
  have hS : va_S xN s.heap s.heap [] := va_S.rf
  have hl := lv_entry [.ref (ad 0), .int hv, .int vl, .int j, .ref (ad 15)] (n := 6) (Nat.le_of_ble_eq_true rfl)
  rw [lg_entry_eq]
  generalize (lg_sl [.ref (ad 0), .int hv, .int vl, .int j, .ref (ad 15)] ++ List.replicate (6 - (lg_sl [.ref (ad 0), .int hv, .int vl, .int j, .ref (ad 15)]).length) Slot.unset).toArray = ls at hl ⊢
  have hl : lv_has ls 6 [(0, .ref (ad 0)), (1, .int hv), (2, .int vl), (3, .int j), (4, .ref (ad 15))] := hl
  refine lv_aload hx hb dL_subset_0 (lv_at hl 4 rfl) ?_
  refine lv_iconst (v := 0) hx hb dL_subset_2 (by decide) ?_
  refine lv_aload_n hx hb dL_subset_3 rfl (lv_at hl 0 rfl) ?_
  refine lv_iload_n hx hb dL_subset_4 rfl (lv_at hl 1 rfl) ?_
  refine lv_iload_n hx hb dL_subset_5 rfl (lv_at hl 2 rfl) ?_
  refine lv_iload_n hx hb dL_subset_6 rfl (lv_at hl 3 rfl) ?_
  refine xcatch (ws' := []) (As := [.int hv, .int vl, .int j]) (rest := [.int 0, .ref (ad 15)]) (hp := 14) (c_subset_x l dC dI cI cL cZ ad (hinj.le (by omega)) hlt nv av nc mt mf wt hnc hnv hv vl j hbad) ⟨hx, hb, hml, hown, hts⟩ (xcwV 3 hts wd_511 wd_34 wd_508 wd_509 wd_510 rfl rfl (by decide +kernel) ⟨Nat.le_of_ble_eq_true rfl, Nat.le_of_ble_eq_true rfl⟩) (xpreV1 (va_recv hK hP rfl (q0 := 0) rfl) hP hK hE (fun _ _ => rfl)) rfl hl.1 rfl (Nat.le_of_ble_eq_true rfl) dL_subset_7 ⟨Nat.le_of_ble_eq_true rfl, Nat.le_of_ble_eq_true rfl⟩ (xTab1 B.admits hown (hts _ (List.mem_cons_of_mem _ wd_362)) (hE _ (by simp [xex])) htb (by decide) (by decide)) (fun x H1 hk hsz => ?_)
  refine lv_astore (lv' := ((5, .ref x) :: [(0, .ref (ad 0)), (1, .int hv), (2, .int vl), (3, .int j), (4, .ref (ad 15))])) hx hb dL_subset_14 hl (by decide) rfl (fun ls hl => ?_)
  refine lv_iconst (v := 1) hx hb dL_subset_16 (by decide) ?_
  exact W.iret (v := 1) hx hb hr (fun t ht hW => ⟨⟨_, (), rfl, rfl, trivial⟩, by rw [ht]; exact hsz, fun q hq _ => by rw [ht]; exact hk q hq⟩) (fun q hq => by cases hq) dL_subset_17
