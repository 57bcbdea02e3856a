def f_countHolding_L (mt : Nat → Int32) (v : Nat) (x : Int64) : Nat → Nat → Int32 → Int32
  | 0, i, acc =>
    acc
  | n + 1, i, acc =>
    if (lg_cmp ((x >>> ((nI i).toInt64 &&& 63)) &&& 1) 0) = 0 then
      f_countHolding_L mt v x n (i + 1) acc
    else
      if (((mt i) >>> ((nI v) &&& 31)) &&& 1) = 0 then
        f_countHolding_L mt v x n (i + 1) acc
      else
        f_countHolding_L mt v x n (i + 1) (acc + 1)
def f_countHolding (nc : Nat) (mt : Nat → Int32) (v : Nat) (x : Int64) : Int32 :=
  f_countHolding_L mt v x nc 0 0

set_option maxHeartbeats 4000000 in
set_option maxRecDepth 100000 in
theorem c_countHoldingT (l : Launch) (dC : Nat → ClassId) (dI : Nat → Nat → Nat) (cI cL cZ : ClassId) (ad : Nat → Nat) (hinj : xI ad 15) (nv : Nat) (av : Int32) (nc : Nat) (mt mf wt : Nat → Int32) (hnc : nc ≤ 40) (v : Nat) (x : Int64) : Met l yX1_countHolding wsX1_countHolding ({ frames := 0, cells := 0, slots := 0, locals := 0 }) (va_Pc [.ref (ad 1), .ref (ad 2), .int (nI v), .long x] (fun U => va_P (dC, dI) vwCl [(ad 1, .inr (1, [.int (nI nv), .int av, .int (nI nc), .ref (ad 2), .ref (ad 3), .ref (ad 4)])), (ad 2, .inl (cI, 40, .inl mt)), (ad 3, .inl (cI, 40, .inl mf)), (ad 4, .inl (cI, 40, .inl wt))] U.heap ∧ va_K (dC, dI) vwCl [(cI, .int), (cL, .long), (cZ, .boolean)] U)) (va_Qi (fun r (_ : Unit) => f_countHolding nc mt v x = r) (fun _ _ => True) xN) 0 0 xN := by
  refine Met.ofW (cc := cX1_countHolding) (maxL := 7) (ret := (some .int)) (by decide) rfl ?_
  intro p e s m args below meth c s₁ B hml hvv
  obtain ⟨rfl, hP0, hK⟩ := hvv
  have hx := B.exec
  have hb := B.bytes
  have hr := B.returns
  have hts := atoms_spec (ws := wsX1_countHolding) B.pre
  have hown : s.vm.findClass RX1 = some m.cls := findClass_of_methodNamed B.named
  have hlocks := B.notSynchronized
  have hw0 : (.fieldLink RX1 28 "WeightedClauses$Formula" "clauseCount" "I" : Cond).before _ s = true := hts _ (List.mem_cons_of_mem _ wd_72)
  have hPr : va_P (dC, dI) vwCl [(ad 1, .inr (1, [.int (nI nv), .int av, .int (nI nc), .ref (ad 2), .ref (ad 3), .ref (ad 4)])), (ad 2, .inl (cI, 40, .inl mt)), (ad 3, .inl (cI, 40, .inl mf)), (ad 4, .inl (cI, 40, .inl wt))] s.heap := hP0.sub [0, 1, 2, 3] rfl
  have hS : va_S xN s.heap s.heap [] := va_S.rf
  have hl := lv_entry [.ref (ad 1), .ref (ad 2), .int (nI v), .long x] (n := 7) (Nat.le_of_ble_eq_true rfl)
  rw [lg_entry_eq]
  generalize (lg_sl [.ref (ad 1), .ref (ad 2), .int (nI v), .long x] ++ List.replicate (7 - (lg_sl [.ref (ad 1), .ref (ad 2), .int (nI v), .long x]).length) Slot.unset).toArray = ls at hl ⊢
  have hl : lv_has ls 7 [(0, .ref (ad 1)), (1, .ref (ad 2)), (2, .int (nI v)), (3, .long x)] := hl
  have hF := Eq.refl (f_countHolding nc mt v x)
  conv at hF => rhs; unfold f_countHolding
  refine lv_iconst (v := 0) hx hb dX1_countHolding_0 (by decide) ?_
  refine lv_istore (lv' := [(5, .int 0), (0, .ref (ad 1)), (1, .ref (ad 2)), (2, .int (nI v)), (3, .long x)]) hx hb dX1_countHolding_1 hl (by decide) rfl (fun ls hl => ?_)
  refine lv_iconst (v := 0) hx hb dX1_countHolding_3 (by decide) ?_
  refine lv_istore (lv' := [(6, .int 0), (5, .int 0), (0, .ref (ad 1)), (1, .ref (ad 2)), (2, .int (nI v)), (3, .long x)]) hx hb dX1_countHolding_4 hl (by decide) rfl (fun ls hl => ?_)
  have lp6 : ∀ (n : Nat) (i : Nat) (acc : Int32) (H : Heap) (locs : List Loc) (ls : Array Slot), f_countHolding nc mt v x = f_countHolding_L mt v x n i acc → i + n = nc → va_S xN s.heap H locs → lv_has ls 7 [(0, .ref (ad 1)), (1, .ref (ad 2)), (2, .int (nI v)), (3, .long x), (5, .int acc), (6, .int (nI i))] → W p l e (headSpec wsX1_countHolding ({ frames := 0, cells := 0, slots := 0, locals := 0 })).room s m [.ref (ad 1), .ref (ad 2), .int (nI v), .long x].toArray below meth c H locs 0 0 (MQ below (va_Qi (fun r (_ : Unit) => f_countHolding nc mt v x = r) (fun _ _ => True) xN) [.ref (ad 1), .ref (ad 2), .int (nI v), .long x].toArray s 0 0 xN) (F0 m 6 ls []) := by
    intro n
    induction n with
    | zero =>
      intro i acc H locs ls hF hil hS hl
      rw [f_countHolding_L] at hF
      refine lv_iload hx hb dX1_countHolding_6 (lv_at hl 5 rfl) ?_
      refine lv_aload_n hx hb dX1_countHolding_8 rfl (lv_at hl 0 rfl) ?_
      have hR := xP0 hPr xnN hS
      refine va_get (D := (dC, dI)) (ci := 1) (v := .int (nI nc)) (C := RX1) (T := TX1) (N := 6) hx hb hts (xcons inX1) hown hK hR 0 rfl rfl 2 (by decide) hw0 (fun _ h9 => h9) rfl dX1_countHolding_9 ?_
      refine lv_icmp_ge (tgt := 46) hx hb dX1_countHolding_12 (by decide) (fun h1 => ?_) (fun h1 => absurd (nI_le (by omega) (by omega)) h1)
      refine lv_iload hx hb dX1_countHolding_46 (lv_at hl 4 rfl) ?_
      exact W.iret (v := acc) hx hb hr (fun t ht hW => ⟨⟨_, (), rfl, hF, trivial⟩, hS.F ht⟩) hS.2.2 dX1_countHolding_48
    | succ n ih =>
      intro i acc H locs ls hF hil hS hl
      rw [f_countHolding_L] at hF
      refine lv_iload hx hb dX1_countHolding_6 (lv_at hl 5 rfl) ?_
      refine lv_aload_n hx hb dX1_countHolding_8 rfl (lv_at hl 0 rfl) ?_
      have hR := xP0 hPr xnN hS
      refine va_get (D := (dC, dI)) (ci := 1) (v := .int (nI nc)) (C := RX1) (T := TX1) (N := 6) hx hb hts (xcons inX1) hown hK hR 0 rfl rfl 2 (by decide) hw0 (fun _ h9 => h9) rfl dX1_countHolding_9 ?_
      refine lv_icmp_ge (tgt := 46) hx hb dX1_countHolding_12 (by decide) (fun h2 => absurd h2 (nI_ge (by omega) (by omega))) (fun h2 => ?_)
      refine lv_lload_n hx hb dX1_countHolding_15 rfl (lv_at hl 3 rfl) ?_
      refine lv_iload hx hb dX1_countHolding_16 (lv_at hl 5 rfl) ?_
      refine lv_lshr (v := (x >>> ((nI i).toInt64 &&& 63))) hx hb dX1_countHolding_18 rfl ?_
      refine lv_lconst (v := 1) hx hb dX1_countHolding_19 (by decide) ?_
      refine lv_land hx hb dX1_countHolding_20 ?_
      refine lv_lconst (v := 0) hx hb dX1_countHolding_21 (by decide) ?_
      refine W.lcmp hx hb dX1_countHolding_22 ?_
      refine lv_if_eq (tgt := 40) hx hb dX1_countHolding_23 (by decide) (fun h3 => ?_) (fun h3 => ?_)
      · have hF := hF.trans (if_pos h3)
        refine lv_iinc (k := 5) (v := (nI (i + 1))) (lv' := [(6, .int (nI (i + 1))), (0, .ref (ad 1)), (1, .ref (ad 2)), (2, .int (nI v)), (3, .long x), (5, .int acc)]) hx hb dX1_countHolding_40 hl rfl (xinc _) (by decide) rfl (fun ls hl => ?_)
        refine lv_goto (tgt := 6) hx hb dX1_countHolding_43 (by decide) ?_
        exact ih (i + 1) acc _ _ _ hF (by omega) hS (lv_sub hl [1, 2, 3, 4, 5, 0] rfl)
      · have hF := hF.trans (if_neg h3)
        refine lv_aload_n hx hb dX1_countHolding_26 rfl (lv_at hl 1 rfl) ?_
        refine lv_iload hx hb dX1_countHolding_27 (lv_at hl 5 rfl) ?_
        refine xr_iald hx hb hK hR 1 0 rfl rfl i (by omega) (by omega) dX1_countHolding_29 ?_
        refine lv_iload_n hx hb dX1_countHolding_30 rfl (lv_at hl 2 rfl) ?_
        refine lv_ishr hx hb dX1_countHolding_31 ?_
        refine lv_iconst (v := 1) hx hb dX1_countHolding_32 (by decide) ?_
        refine lv_iand hx hb dX1_countHolding_33 ?_
        refine lv_if_eq (tgt := 40) hx hb dX1_countHolding_34 (by decide) (fun h4 => ?_) (fun h4 => ?_)
        · have hF := hF.trans (if_pos h4)
          refine lv_iinc (k := 5) (v := (nI (i + 1))) (lv' := [(6, .int (nI (i + 1))), (0, .ref (ad 1)), (1, .ref (ad 2)), (2, .int (nI v)), (3, .long x), (5, .int acc)]) hx hb dX1_countHolding_40 hl rfl (xinc _) (by decide) rfl (fun ls hl => ?_)
          refine lv_goto (tgt := 6) hx hb dX1_countHolding_43 (by decide) ?_
          exact ih (i + 1) acc _ _ _ hF (by omega) hS (lv_sub hl [1, 2, 3, 4, 5, 0] rfl)
        · have hF := hF.trans (if_neg h4)
          refine lv_iinc (k := 4) (v := (acc + 1)) (lv' := [(5, .int (acc + 1)), (0, .ref (ad 1)), (1, .ref (ad 2)), (2, .int (nI v)), (3, .long x), (6, .int (nI i))]) hx hb dX1_countHolding_37 hl rfl (xinc1 _) (by decide) rfl (fun ls hl => ?_)
          refine lv_iinc (k := 5) (v := (nI (i + 1))) (lv' := [(6, .int (nI (i + 1))), (5, .int (acc + 1)), (0, .ref (ad 1)), (1, .ref (ad 2)), (2, .int (nI v)), (3, .long x)]) hx hb dX1_countHolding_40 hl rfl (xinc _) (by decide) rfl (fun ls hl => ?_)
          refine lv_goto (tgt := 6) hx hb dX1_countHolding_43 (by decide) ?_
          exact ih (i + 1) (acc + 1) _ _ _ hF (by omega) hS (lv_sub hl [2, 3, 4, 5, 1, 0] rfl)
  exact lp6 nc 0 0 _ _ _ hF (by omega) hS (lv_sub hl [2, 3, 4, 5, 1, 0] rfl)
set_option maxHeartbeats 4000000 in
set_option maxRecDepth 100000 in
theorem c_countHoldingF (l : Launch) (dC : Nat → ClassId) (dI : Nat → Nat → Nat) (cI cL cZ : ClassId) (ad : Nat → Nat) (hinj : xI ad 15) (nv : Nat) (av : Int32) (nc : Nat) (mt mf wt : Nat → Int32) (hnc : nc ≤ 40) (v : Nat) (x : Int64) : Met l yX1_countHolding wsX1_countHolding ({ frames := 0, cells := 0, slots := 0, locals := 0 }) (va_Pc [.ref (ad 1), .ref (ad 3), .int (nI v), .long x] (fun U => va_P (dC, dI) vwCl [(ad 1, .inr (1, [.int (nI nv), .int av, .int (nI nc), .ref (ad 2), .ref (ad 3), .ref (ad 4)])), (ad 2, .inl (cI, 40, .inl mt)), (ad 3, .inl (cI, 40, .inl mf)), (ad 4, .inl (cI, 40, .inl wt))] U.heap ∧ va_K (dC, dI) vwCl [(cI, .int), (cL, .long), (cZ, .boolean)] U)) (va_Qi (fun r (_ : Unit) => f_countHolding nc mf v x = r) (fun _ _ => True) xN) 0 0 xN := by
  refine Met.ofW (cc := cX1_countHolding) (maxL := 7) (ret := (some .int)) (by decide) rfl ?_
  intro p e s m args below meth c s₁ B hml hvv
  obtain ⟨rfl, hP0, hK⟩ := hvv
  have hx := B.exec
  have hb := B.bytes
  have hr := B.returns
  have hts := atoms_spec (ws := wsX1_countHolding) B.pre
  have hown : s.vm.findClass RX1 = some m.cls := findClass_of_methodNamed B.named
  have hlocks := B.notSynchronized
  have hw0 : (.fieldLink RX1 28 "WeightedClauses$Formula" "clauseCount" "I" : Cond).before _ s = true := hts _ (List.mem_cons_of_mem _ wd_72)
  have hPr : va_P (dC, dI) vwCl [(ad 1, .inr (1, [.int (nI nv), .int av, .int (nI nc), .ref (ad 2), .ref (ad 3), .ref (ad 4)])), (ad 2, .inl (cI, 40, .inl mt)), (ad 3, .inl (cI, 40, .inl mf)), (ad 4, .inl (cI, 40, .inl wt))] s.heap := hP0.sub [0, 1, 2, 3] rfl
  have hS : va_S xN s.heap s.heap [] := va_S.rf
  have hl := lv_entry [.ref (ad 1), .ref (ad 3), .int (nI v), .long x] (n := 7) (Nat.le_of_ble_eq_true rfl)
  rw [lg_entry_eq]
  generalize (lg_sl [.ref (ad 1), .ref (ad 3), .int (nI v), .long x] ++ List.replicate (7 - (lg_sl [.ref (ad 1), .ref (ad 3), .int (nI v), .long x]).length) Slot.unset).toArray = ls at hl ⊢
  have hl : lv_has ls 7 [(0, .ref (ad 1)), (1, .ref (ad 3)), (2, .int (nI v)), (3, .long x)] := hl
  have hF := Eq.refl (f_countHolding nc mf v x)
  conv at hF => rhs; unfold f_countHolding
  refine lv_iconst (v := 0) hx hb dX1_countHolding_0 (by decide) ?_
  refine lv_istore (lv' := [(5, .int 0), (0, .ref (ad 1)), (1, .ref (ad 3)), (2, .int (nI v)), (3, .long x)]) hx hb dX1_countHolding_1 hl (by decide) rfl (fun ls hl => ?_)
  refine lv_iconst (v := 0) hx hb dX1_countHolding_3 (by decide) ?_
  refine lv_istore (lv' := [(6, .int 0), (5, .int 0), (0, .ref (ad 1)), (1, .ref (ad 3)), (2, .int (nI v)), (3, .long x)]) hx hb dX1_countHolding_4 hl (by decide) rfl (fun ls hl => ?_)
  have lp6 : ∀ (n : Nat) (i : Nat) (acc : Int32) (H : Heap) (locs : List Loc) (ls : Array Slot), f_countHolding nc mf v x = f_countHolding_L mf v x n i acc → i + n = nc → va_S xN s.heap H locs → lv_has ls 7 [(0, .ref (ad 1)), (1, .ref (ad 3)), (2, .int (nI v)), (3, .long x), (5, .int acc), (6, .int (nI i))] → W p l e (headSpec wsX1_countHolding ({ frames := 0, cells := 0, slots := 0, locals := 0 })).room s m [.ref (ad 1), .ref (ad 3), .int (nI v), .long x].toArray below meth c H locs 0 0 (MQ below (va_Qi (fun r (_ : Unit) => f_countHolding nc mf v x = r) (fun _ _ => True) xN) [.ref (ad 1), .ref (ad 3), .int (nI v), .long x].toArray s 0 0 xN) (F0 m 6 ls []) := by
    intro n
    induction n with
    | zero =>
      intro i acc H locs ls hF hil hS hl
      rw [f_countHolding_L] at hF
      refine lv_iload hx hb dX1_countHolding_6 (lv_at hl 5 rfl) ?_
      refine lv_aload_n hx hb dX1_countHolding_8 rfl (lv_at hl 0 rfl) ?_
      have hR := xP0 hPr xnN hS
      refine va_get (D := (dC, dI)) (ci := 1) (v := .int (nI nc)) (C := RX1) (T := TX1) (N := 6) hx hb hts (xcons inX1) hown hK hR 0 rfl rfl 2 (by decide) hw0 (fun _ h9 => h9) rfl dX1_countHolding_9 ?_
      refine lv_icmp_ge (tgt := 46) hx hb dX1_countHolding_12 (by decide) (fun h1 => ?_) (fun h1 => absurd (nI_le (by omega) (by omega)) h1)
      refine lv_iload hx hb dX1_countHolding_46 (lv_at hl 4 rfl) ?_
      exact W.iret (v := acc) hx hb hr (fun t ht hW => ⟨⟨_, (), rfl, hF, trivial⟩, hS.F ht⟩) hS.2.2 dX1_countHolding_48
    | succ n ih =>
      intro i acc H locs ls hF hil hS hl
      rw [f_countHolding_L] at hF
      refine lv_iload hx hb dX1_countHolding_6 (lv_at hl 5 rfl) ?_
      refine lv_aload_n hx hb dX1_countHolding_8 rfl (lv_at hl 0 rfl) ?_
      have hR := xP0 hPr xnN hS
      refine va_get (D := (dC, dI)) (ci := 1) (v := .int (nI nc)) (C := RX1) (T := TX1) (N := 6) hx hb hts (xcons inX1) hown hK hR 0 rfl rfl 2 (by decide) hw0 (fun _ h9 => h9) rfl dX1_countHolding_9 ?_
      refine lv_icmp_ge (tgt := 46) hx hb dX1_countHolding_12 (by decide) (fun h2 => absurd h2 (nI_ge (by omega) (by omega))) (fun h2 => ?_)
      refine lv_lload_n hx hb dX1_countHolding_15 rfl (lv_at hl 3 rfl) ?_
      refine lv_iload hx hb dX1_countHolding_16 (lv_at hl 5 rfl) ?_
      refine lv_lshr (v := (x >>> ((nI i).toInt64 &&& 63))) hx hb dX1_countHolding_18 rfl ?_
      refine lv_lconst (v := 1) hx hb dX1_countHolding_19 (by decide) ?_
      refine lv_land hx hb dX1_countHolding_20 ?_
      refine lv_lconst (v := 0) hx hb dX1_countHolding_21 (by decide) ?_
      refine W.lcmp hx hb dX1_countHolding_22 ?_
      refine lv_if_eq (tgt := 40) hx hb dX1_countHolding_23 (by decide) (fun h3 => ?_) (fun h3 => ?_)
      · have hF := hF.trans (if_pos h3)
        refine lv_iinc (k := 5) (v := (nI (i + 1))) (lv' := [(6, .int (nI (i + 1))), (0, .ref (ad 1)), (1, .ref (ad 3)), (2, .int (nI v)), (3, .long x), (5, .int acc)]) hx hb dX1_countHolding_40 hl rfl (xinc _) (by decide) rfl (fun ls hl => ?_)
        refine lv_goto (tgt := 6) hx hb dX1_countHolding_43 (by decide) ?_
        exact ih (i + 1) acc _ _ _ hF (by omega) hS (lv_sub hl [1, 2, 3, 4, 5, 0] rfl)
      · have hF := hF.trans (if_neg h3)
        refine lv_aload_n hx hb dX1_countHolding_26 rfl (lv_at hl 1 rfl) ?_
        refine lv_iload hx hb dX1_countHolding_27 (lv_at hl 5 rfl) ?_
        refine xr_iald hx hb hK hR 2 0 rfl rfl i (by omega) (by omega) dX1_countHolding_29 ?_
        refine lv_iload_n hx hb dX1_countHolding_30 rfl (lv_at hl 2 rfl) ?_
        refine lv_ishr hx hb dX1_countHolding_31 ?_
        refine lv_iconst (v := 1) hx hb dX1_countHolding_32 (by decide) ?_
        refine lv_iand hx hb dX1_countHolding_33 ?_
        refine lv_if_eq (tgt := 40) hx hb dX1_countHolding_34 (by decide) (fun h4 => ?_) (fun h4 => ?_)
        · have hF := hF.trans (if_pos h4)
          refine lv_iinc (k := 5) (v := (nI (i + 1))) (lv' := [(6, .int (nI (i + 1))), (0, .ref (ad 1)), (1, .ref (ad 3)), (2, .int (nI v)), (3, .long x), (5, .int acc)]) hx hb dX1_countHolding_40 hl rfl (xinc _) (by decide) rfl (fun ls hl => ?_)
          refine lv_goto (tgt := 6) hx hb dX1_countHolding_43 (by decide) ?_
          exact ih (i + 1) acc _ _ _ hF (by omega) hS (lv_sub hl [1, 2, 3, 4, 5, 0] rfl)
        · have hF := hF.trans (if_neg h4)
          refine lv_iinc (k := 4) (v := (acc + 1)) (lv' := [(5, .int (acc + 1)), (0, .ref (ad 1)), (1, .ref (ad 3)), (2, .int (nI v)), (3, .long x), (6, .int (nI i))]) hx hb dX1_countHolding_37 hl rfl (xinc1 _) (by decide) rfl (fun ls hl => ?_)
          refine lv_iinc (k := 5) (v := (nI (i + 1))) (lv' := [(6, .int (nI (i + 1))), (5, .int (acc + 1)), (0, .ref (ad 1)), (1, .ref (ad 3)), (2, .int (nI v)), (3, .long x)]) hx hb dX1_countHolding_40 hl rfl (xinc _) (by decide) rfl (fun ls hl => ?_)
          refine lv_goto (tgt := 6) hx hb dX1_countHolding_43 (by decide) ?_
          exact ih (i + 1) (acc + 1) _ _ _ hF (by omega) hS (lv_sub hl [2, 3, 4, 5, 1, 0] rfl)
  exact lp6 nc 0 0 _ _ _ hF (by omega) hS (lv_sub hl [2, 3, 4, 5, 1, 0] rfl)
