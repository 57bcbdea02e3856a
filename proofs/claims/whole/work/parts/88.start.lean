/-! my own rows: the law's start -/
theorem xnv (n : Int32) : ∃ nv, 1 ≤ nv ∧ nv ≤ 10 ∧ (if (1 : Int32) < (if n < 10 then n else 10) then (if n < 10 then n else 10) else 1) = nI nv ∧ (if n < 1 then 1 else if 10 < n then 10 else n) = nI nv := by
  by_cases h1 : n < 1
  · refine ⟨1, by omega, by omega, ?_, ?_⟩
    · have h2 : n < 10 := by
        rw [Int32.lt_iff_toInt_lt] at h1 ⊢
        have c1 : (1 : Int32).toInt = 1 := by decide
        have c2 : (10 : Int32).toInt = 10 := by decide
        omega
      rw [if_pos h2, if_neg (fun q => by
        rw [Int32.lt_iff_toInt_lt] at h1 q
        omega)]
      decide
    · rw [if_pos h1]; decide
  · by_cases h2 : 10 < n
    · refine ⟨10, by omega, by omega, ?_, ?_⟩
      · have h4 : ¬ n < 10 := fun q => by
          rw [Int32.lt_iff_toInt_lt] at h2 q
          omega
        have h5 : (1 : Int32) < 10 := by decide
        rw [if_neg h4, if_pos h5]
        decide
      · rw [if_neg h1, if_pos h2]; decide
    · have h3 : ¬ n < 0 := fun q => by
        rw [Int32.lt_iff_toInt_lt] at h1 q
        have c1 : (1 : Int32).toInt = 1 := by decide
        have c2 : (0 : Int32).toInt = 0 := by decide
        omega
      obtain ⟨j, hj, rfl⟩ := nI_of h3
      have a1 : 1 ≤ j := Nat.le_of_not_lt fun q => h1 (nI_lt (a := j) (b := 1) q (by decide))
      have a2 : j ≤ 10 := Nat.le_of_not_lt fun q => h2 (nI_lt (a := 10) (b := j) q hj)
      refine ⟨j, a1, a2, ?_, ?_⟩
      · have : ∀ j, j < 11 → 1 ≤ j → (if (1 : Int32) < (if nI j < 10 then nI j else 10) then (if nI j < 10 then nI j else 10) else 1) = nI j := by decide +kernel
        exact this j (by omega) a1
      · rw [if_neg h1, if_neg h2]
theorem xarr {s : State} {args : Array Value} (ty : FieldType) (hr : ∀ c : ClassId, va_RA s c ty = (s.vm.findClass ("[" ++ ty.toString) = some c)) (h : (Cond.arrayClass ty).before args s = true) : ∃ cA : ClassId, ArrOfT s cA ty ∧ va_RA s cA ty := by
  obtain ⟨cB, kB, comp, h1, h2, h3⟩ := Cond.arrayClass_spec h
  exact ⟨cB, fun n z => ⟨fun k h => (by cases h), kB, h2, comp, h3⟩, by rw [hr]; exact h1⟩
theorem xKof {s : State} {args : Array Value} {c0 : Cond} (hts : ∀ w ∈ c0 :: xtb, w.before args s = true) : ∃ (dC : Nat → ClassId) (dI : Nat → Nat → Nat) (cI cL cZ : ClassId), va_K (dC, dI) vwCl [(cI, .int), (cL, .long), (cZ, .boolean)] s := by
  obtain ⟨c0, i0, k0⟩ := u_known hts (xcons inX0) (hts _ (List.mem_cons_of_mem _ wd_93))
  obtain ⟨c1, i1, k1⟩ := u_known hts (xcons inX1) (hts _ (List.mem_cons_of_mem _ wd_55))
  obtain ⟨c2, i2, k2⟩ := u_known hts (xcons inX2) (hts _ (List.mem_cons_of_mem _ wd_128))
  obtain ⟨c3, i3, k3⟩ := u_known hts (xcons inX3) (hts _ (List.mem_cons_of_mem _ wd_47))
  obtain ⟨c4, i4, k4⟩ := u_known hts (xcons inX4) (hts _ (List.mem_cons_of_mem _ wd_525))
  obtain ⟨cI, aI, rI⟩ := xarr .int (fun _ => rfl) (hts _ (List.mem_cons_of_mem _ wd_91))
  obtain ⟨cL, aL, rL⟩ := xarr .long (fun _ => rfl) (hts _ (List.mem_cons_of_mem _ wd_126))
  obtain ⟨cZ, aZ, rZ⟩ := xarr .boolean (fun _ => rfl) (hts _ (List.mem_cons_of_mem _ wd_606))
  refine ⟨fun c => match c with | 0 => c0 | 1 => c1 | 2 => c2 | 3 => c3 | _ => c4, fun c => match c with | 0 => i0 | 1 => i1 | 2 => i2 | 3 => i3 | _ => i4, cI, cL, cZ, fun c q hq => ?_, fun k q hk => ?_⟩
  · match c, hq with
    | 0, hq => cases hq; exact k0
    | 1, hq => cases hq; exact k1
    | 2, hq => cases hq; exact k2
    | 3, hq => cases hq; exact k3
    | 4, hq => cases hq; exact k4
    | n + 5, hq => cases hq
  · match k, hk with
    | 0, hk => cases hk; exact ⟨aI, rI⟩
    | 1, hk => cases hk; exact ⟨aL, rL⟩
    | 2, hk => cases hk; exact ⟨aZ, rZ⟩
    | n + 3, hk => cases hk
theorem xD_I {ad : Nat → Nat} {n : Nat} {ws : va_W} {A : Nat → Prop} (hD : va_D A ws) (hm : ws.map (fun q => q.1) = (List.range n).map ad) : xI ad n ∧ ∀ i, i < n → A (ad i) := by
  have hat : ∀ i, i < n → ∃ q, ws[i]? = some q ∧ q.1 = ad i := by
    intro i hi
    have h1 : (ws.map (fun q => q.1))[i]? = some (ad i) := by rw [hm]; simp [hi]
    rw [List.getElem?_map] at h1
    cases hw : ws[i]? with
    | none => rw [hw] at h1; cases h1
    | some q => rw [hw] at h1; exact ⟨q, rfl, Option.some.inj h1⟩
  refine ⟨fun i j hi hj e => ?_, fun i hi => ?_⟩
  · obtain ⟨p, h1, h2⟩ := hat i hi
    obtain ⟨q, h3, h4⟩ := hat j hj
    exact hD.1 i j p q h1 h3 (by rw [h2, h4, e])
  · obtain ⟨p, h1, h2⟩ := hat i hi
    rw [← h2]
    exact hD.2 i p h1
theorem xExof {s : State} {args : Array Value} (hts : ∀ w ∈ lw_tbl, w.before args s = true) (hgv : (Jvm.Cond.and given_1 narrow_1).before args s = true) : xEx s ∧ xNo s := by
  have hs := flat_of_before _ hgv
  refine ⟨?_, xNo.of (hs _ (by decide +kernel))⟩
  unfold xEx xex
  simp only [List.forall_mem_cons]
  exact ⟨va_Nw.of rfl (hts _ (by decide +kernel)), va_Nw.of rfl (hts _ (by decide +kernel)), va_Nw.of rfl (hts _ (by decide +kernel)), va_Nw.of rfl (hts _ (by decide +kernel)), va_Nw.of rfl (hts _ (by decide +kernel)), hts (.laysStatic "java/lang/Throwable" "UNASSIGNED_STACK" "[Ljava/lang/StackTraceElement;") (by decide +kernel), hts (.laysStatic "java/lang/Throwable" "SUPPRESSED_SENTINEL" "Ljava/util/List;") (by decide +kernel),
    hs (.isRef (.static "java/lang/Throwable" "UNASSIGNED_STACK" "[Ljava/lang/StackTraceElement;")) (by decide +kernel), hs (.isRef (.static "java/lang/Throwable" "SUPPRESSED_SENTINEL" "Ljava/util/List;")) (by decide +kernel), fun a ha => absurd ha List.not_mem_nil⟩
set_option maxHeartbeats 4000000 in
set_option maxRecDepth 100000 in
theorem h_cell (l : Launch) (b L : Nat) (xs : Nat → Int32) (hL : L ≤ 3073) : Met l yL_cell wsL_cell ({ frames := 0, cells := 0, slots := 0, locals := 0 }) (va_Pc [.ref b, .int 0] (fun U => va_X b L xs U U.heap ∧ b < U.heap.size)) (va_Qi (fun r (_ : Unit) => (if L = 0 then 0 else xs 0) = r) (fun _ _ => True) xN) 0 0 xN := by
  refine Met.ofW (cc := cL_cell) (maxL := 2) (ret := (some .int)) (by decide) rfl ?_
  intro p e s m args below meth c s₁ B hml hvv
  obtain ⟨rfl, hX, hbl⟩ := hvv
  have hx := B.exec
  have hb := B.bytes
  have hr := B.returns
  have hS : va_S xN s.heap s.heap [] := va_S.rf
  have hl := lv_entry [.ref b, .int 0] (n := 2) (Nat.le_of_ble_eq_true rfl)
  rw [lg_entry_eq]
  generalize (lg_sl [.ref b, .int 0] ++ List.replicate (2 - (lg_sl [.ref b, .int 0]).length) Slot.unset).toArray = ls at hl ⊢
  have hl : lv_has ls 2 [(0, .ref b), (1, .int 0)] := hl
  refine lv_iload_n hx hb dL_cell_0 rfl (lv_at hl 1 rfl) ?_
  refine lv_aload_n hx hb dL_cell_1 rfl (lv_at hl 0 rfl) ?_
  refine va_slen hx hb hX hbl (fun z => z) hS dL_cell_2 ?_
  by_cases h0 : L = 0
  · have h1 : Int32.ofNat L ≤ 0 := by rw [h0]; decide
    refine lv_icmp_ge (tgt := 12) hx hb dL_cell_3 (by decide) (fun _ => ?_) (fun h => absurd h1 h)
    refine lv_iconst (v := 0) hx hb dL_cell_12 (by decide) ?_
    exact W.iret (v := 0) hx hb hr (fun t ht hW => ⟨⟨_, (), rfl, by rw [if_pos h0], trivial⟩, hS.F ht⟩) hS.2.2 dL_cell_13
  · have h1 : ¬ Int32.ofNat L ≤ 0 := nI_nle (n := L) (by omega) (by omega)
    refine lv_icmp_ge (tgt := 12) hx hb dL_cell_3 (by decide) (fun h => absurd h h1) (fun _ => ?_)
    refine lv_aload_n hx hb dL_cell_6 rfl (lv_at hl 0 rfl) ?_
    refine lv_iload_n hx hb dL_cell_7 rfl (lv_at hl 1 rfl) ?_
    refine xr_sld hx hb hX hbl (fun z => z) hS (j := 0) (by omega) hL dL_cell_8 ?_
    refine lv_goto (tgt := 13) hx hb dL_cell_9 (by decide) ?_
    exact W.iret (v := xs 0) hx hb hr (fun t ht hW => ⟨⟨_, (), rfl, by rw [if_neg h0], trivial⟩, hS.F ht⟩) hS.2.2 dL_cell_13
theorem xpreC {s : State} {H : Heap} {b L : Nat} {xs : Nat → Int32} (hX : va_X b L xs s s.heap) (hbl : b < s.heap.size) (hk : H[b]? = s.heap[b]?) (hsz : s.heap.size ≤ H.size) : PreS s H (va_Pc [.ref b, .int 0] (fun U => va_X b L xs U U.heap ∧ b < U.heap.size)) [.ref b, .int 0] :=
  ⟨fun a U g mk q => q, fun U hU hW => ⟨rfl, by rw [hU]; exact (hX.kept hk).moved hW.alike, by rw [hU]; omega⟩⟩

set_option maxHeartbeats 8000000 in
set_option maxRecDepth 100000 in
theorem whole_start {p : Program} {e : Env} {s : State} {m : MethodId} {below : List Frame} {meth : Method} {c : Code} (l : Launch) (hlt : ∀ e : Env, l.admits e → e.platform.stackTraces = false) {b L : Nat} {xs : Nat → Int32} (hL : L ≤ 3073) (C0 : lw_At p s m meth c b L xs) : W p l e room_1 s m #[Value.ref b] below meth c s.heap [] 0 0 (lw_Z below #[Value.ref b] s) (entryFrame m ([Value.ref b] : List Value).toArray 8) := by
  obtain ⟨hx, hb, hr, hml, hown, htl, hX, hbl, hlocks, hgv⟩ := C0
  have hb : c.code = cL_law := hb
  have hown : s.vm.findClass RL = some m.cls := hown
  have hts : ∀ w ∈ xW0 :: xtb, w.before #[Value.ref b] s = true := fun w hw => (List.mem_cons.mp hw).elim (fun e => by rw [e]; exact htl _ (xtb_in wd_33)) (fun h => htl _ (xtb_in h))
  obtain ⟨hE, hN⟩ := xExof htl hgv
  obtain ⟨dC, dI, cI, cL, cZ, hK⟩ := xKof hts
  obtain ⟨n0, hn0⟩ : ∃ n0 : Int32, n0 = (if L = 0 then 0 else xs 0) := ⟨_, rfl⟩
  obtain ⟨nv, h1, h2, hnv, hnvM⟩ := xnv n0
  obtain ⟨lz, hz⟩ : ∃ lz, lz = 2 ^ (nv - 1) := ⟨_, rfl⟩
  have hz2 : lz ≤ 512 := by rw [hz]; exact xlz2 h1 h2
  have hw0 : (.classLink RL 8 "WeightedClauses" : Cond).before #[Value.ref b] s = true := hts _ (List.mem_cons_of_mem _ wd_46)
  have hw1 : (.instantiable "WeightedClauses" 3 : Cond).before #[Value.ref b] s = true := hts _ (List.mem_cons_of_mem _ wd_47)
  have hw2 : (.initialized "WeightedClauses" : Cond).before #[Value.ref b] s = true := hts _ (List.mem_cons_of_mem _ wd_34)
  have hw3 : (.classLink RL 44 "WeightedClausesModel" : Cond).before #[Value.ref b] s = true := hts _ (List.mem_cons_of_mem _ wd_524)
  have hw4 : (.instantiable "WeightedClausesModel" 25 : Cond).before #[Value.ref b] s = true := hts _ (List.mem_cons_of_mem _ wd_525)
  have hw5 : (.initialized "WeightedClausesModel" : Cond).before #[Value.ref b] s = true := hts _ (List.mem_cons_of_mem _ wd_39)
  have hw6 : (.arrayClass .long : Cond).before #[Value.ref b] s = true := hts _ (List.mem_cons_of_mem _ wd_126)
  have hA : ∀ q : Nat, s.heap.size ≤ q → (fun q : Nat => s.heap.size ≤ q) q := fun q h => h
  have hP : va_P (dC, dI) vwCl [] s.heap := xPn
  have hD : va_D (fun q : Nat => s.heap.size ≤ q) [] := ⟨fun i j p q h => (by cases h), fun k q h => (by cases h)⟩
  have hS : va_S (fun q : Nat => s.heap.size ≤ q) s.heap s.heap [] := va_S.rf
  have hl := lv_entry [.ref b] (n := 8) (Nat.le_of_ble_eq_true rfl)
  rw [lg_entry_eq]
  generalize (lg_sl [.ref b] ++ List.replicate (8 - (lg_sl [.ref b]).length) Slot.unset).toArray = ls at hl ⊢
  have hl : lv_has ls 8 [(0, .ref b)] := hl
  refine va_new (ci := 3) (fs := [.null, .null, .null]) (C := RX3) (T := TX3) (N := 3) hx hb hts (xcons inX3) tyX3 tyX3_ok hown hw0 hw1 hw2 hK hP hD hS hA rfl (fun j hj => by have h9 : j = 0 ∨ j = 1 ∨ j = 2 := (by omega); rcases h9 with rfl | rfl | rfl <;> rfl) (Nat.le_of_ble_eq_true rfl) (Nat.le_of_ble_eq_true rfl) dL_law_0 (fun q0 H hP hD hS => ?_)
  have hP : va_P (dC, dI) vwCl [(q0, .inr (3, [.null, .null, .null]))] H := hP
  have hD : va_D (fun q : Nat => s.heap.size ≤ q) [(q0, .inr (3, [.null, .null, .null]))] := hD
  refine lv_dup hx hb dL_law_3 rfl ?_
  refine lv_aload_n hx hb dL_law_4 rfl (lv_at hl 0 rfl) ?_
  refine lv_iconst (v := 0) hx hb dL_law_5 (by decide) ?_
  refine xro_im (va_runS (As := [.ref b, .int 0]) (rest := [.ref q0, .ref q0]) ⟨hx, hb, hml, hown, hts⟩ (h_cell l b L xs hL) (xcwS 2 hts wd_358 wd_33 wd_356 wd_357 rfl rfl (by decide +kernel) ⟨Nat.le_of_ble_eq_true rfl, Nat.le_of_ble_eq_true rfl⟩) (xpreC hX hbl (hS.2.1 b hbl (Nat.not_le.mpr hbl)) hS.1) rfl rfl hl.1 rfl (lv_room (Nat.le_of_ble_eq_true rfl)) dL_law_6 ⟨Nat.le_of_ble_eq_true rfl, Nat.le_of_ble_eq_true rfl⟩) hS (fun H locs hk hS => ?_)
  rw [← hn0]
  have hP := xkeep hP hk
  have hPc := hP.sub (ws' := [(q0, .inr (3, [.null, .null, .null]))]) [0] rfl
  have hDc := hD.sub (ws' := [(q0, .inr (3, [.null, .null, .null]))]) [0] (by decide) rfl
  have hFc := va_free (wc := [(q0, .inr (3, [.null, .null, .null]))]) hD hS hA [0] rfl
  refine va_callv (va_runI (As := [.int n0]) (rest := [.ref q0]) ⟨hx, hb, hml, hown, hts⟩ (c_X3_init l dC dI cI cL cZ q0 _ n0 nv lz hnv h1 h2 hz hz2) (xcwI 1 hts wd_50 wd_34 wd_48 wd_49 rfl rfl rfl (by decide +kernel) ⟨Nat.le_of_ble_eq_true rfl, Nat.le_of_ble_eq_true rfl⟩) ⟨fun a U g mk q => by obtain ⟨q0, q1, qP, qK, qD⟩ := q; exact ⟨q0, q1, qP, va_K.moved (u := U) (U := U.calling g mk a) (Vm.Alike.refl U.vm) qK, qD⟩, fun U hU hW => ⟨rfl, by rw [hU], by rw [hU]; exact hPc, va_K.moved hW.alike hK, hDc.weaken (fun _ _ _ _ => trivial)⟩⟩ rfl rfl hl.1 rfl (lv_room (Nat.le_of_ble_eq_true rfl)) dL_law_9 ⟨Nat.le_of_ble_eq_true rfl, Nat.le_of_ble_eq_true rfl⟩) hS (fun q _ h => hFc q h) hFc (fun u t H1 locs ht hvm h9 hB hz1 hk1 hS => ?_)
  obtain ⟨a1_9, a2_9, a3_9, a4_9, a5_9, a6_9, a7_9, a8_9, a9_9, a10_9, a11_9, a12_9, a13_9, a14_9⟩ := u
  obtain ⟨hP1, hD1⟩ := hB
  rw [ht] at hP1
  obtain ⟨hP, hD⟩ := va_join (wr := []) (w1 := [(q0, .inr (3, [.ref a1_9, .ref a5_9, .ref a9_9])), (a1_9, .inr (1, [.int (nI nv), .int (((1 : Int32) <<< ((nI nv) &&& 31)) - 1), .int 0, .ref a2_9, .ref a3_9, .ref a4_9])), (a2_9, .inl (cI, 40, .inl (fun _ => 0))), (a3_9, .inl (cI, 40, .inl (fun _ => 0))), (a4_9, .inl (cI, 40, .inl (fun _ => 0))), (a5_9, .inr (0, [.ref a1_9, .ref a6_9, .int 0, .long 0, .int 0, .int 0, .ref a7_9, .ref a8_9, .int 0])), (a6_9, .inl (cL, 40, .inr (.inl (fun _ => 0)))), (a7_9, .inl (cI, 10, .inl (fun _ => 0))), (a8_9, .inl (cI, 10, .inl (fun _ => 0))), (a9_9, .inr (2, [.int 0, .int 0, .long (-1), .int 0, .ref a10_9, .ref a11_9, .ref a12_9, .ref a1_9, .ref a5_9, .ref a13_9, .ref a14_9, .int 0])), (a10_9, .inl (cI, lz, .inl (fun _ => 0))), (a11_9, .inl (cI, lz, .inl (fun _ => 0))), (a12_9, .inl (cL, lz, .inr (.inl (fun _ => 0)))), (a13_9, .inl (cI, 11, .inl (fun _ => 0))), (a14_9, .inl (cI, 11, .inl (fun _ => 0)))]) hP hD [0] [] rfl rfl (by decide) (by decide) hk1 hFc hP1 hD1
  generalize H1 = H at hP hS ⊢
  have hP : va_P (dC, dI) vwCl [(q0, .inr (3, [.ref a1_9, .ref a5_9, .ref a9_9])), (a1_9, .inr (1, [.int (nI nv), .int (((1 : Int32) <<< ((nI nv) &&& 31)) - 1), .int 0, .ref a2_9, .ref a3_9, .ref a4_9])), (a2_9, .inl (cI, 40, .inl (fun _ => 0))), (a3_9, .inl (cI, 40, .inl (fun _ => 0))), (a4_9, .inl (cI, 40, .inl (fun _ => 0))), (a5_9, .inr (0, [.ref a1_9, .ref a6_9, .int 0, .long 0, .int 0, .int 0, .ref a7_9, .ref a8_9, .int 0])), (a6_9, .inl (cL, 40, .inr (.inl (fun _ => 0)))), (a7_9, .inl (cI, 10, .inl (fun _ => 0))), (a8_9, .inl (cI, 10, .inl (fun _ => 0))), (a9_9, .inr (2, [.int 0, .int 0, .long (-1), .int 0, .ref a10_9, .ref a11_9, .ref a12_9, .ref a1_9, .ref a5_9, .ref a13_9, .ref a14_9, .int 0])), (a10_9, .inl (cI, lz, .inl (fun _ => 0))), (a11_9, .inl (cI, lz, .inl (fun _ => 0))), (a12_9, .inl (cL, lz, .inr (.inl (fun _ => 0)))), (a13_9, .inl (cI, 11, .inl (fun _ => 0))), (a14_9, .inl (cI, 11, .inl (fun _ => 0)))] H := hP
  have hD : va_D (fun q : Nat => s.heap.size ≤ q) [(q0, .inr (3, [.ref a1_9, .ref a5_9, .ref a9_9])), (a1_9, .inr (1, [.int (nI nv), .int (((1 : Int32) <<< ((nI nv) &&& 31)) - 1), .int 0, .ref a2_9, .ref a3_9, .ref a4_9])), (a2_9, .inl (cI, 40, .inl (fun _ => 0))), (a3_9, .inl (cI, 40, .inl (fun _ => 0))), (a4_9, .inl (cI, 40, .inl (fun _ => 0))), (a5_9, .inr (0, [.ref a1_9, .ref a6_9, .int 0, .long 0, .int 0, .int 0, .ref a7_9, .ref a8_9, .int 0])), (a6_9, .inl (cL, 40, .inr (.inl (fun _ => 0)))), (a7_9, .inl (cI, 10, .inl (fun _ => 0))), (a8_9, .inl (cI, 10, .inl (fun _ => 0))), (a9_9, .inr (2, [.int 0, .int 0, .long (-1), .int 0, .ref a10_9, .ref a11_9, .ref a12_9, .ref a1_9, .ref a5_9, .ref a13_9, .ref a14_9, .int 0])), (a10_9, .inl (cI, lz, .inl (fun _ => 0))), (a11_9, .inl (cI, lz, .inl (fun _ => 0))), (a12_9, .inl (cL, lz, .inr (.inl (fun _ => 0)))), (a13_9, .inl (cI, 11, .inl (fun _ => 0))), (a14_9, .inl (cI, 11, .inl (fun _ => 0)))] := hD
  refine lv_astore_n (lv' := [(1, .ref q0), (0, .ref b)]) hx hb dL_law_12 rfl hl (by decide) rfl (fun ls hl => ?_)
  refine va_new (ci := 4) (fs := [.int 0, .int 0, .int 0, .null, .null, .null, .int 0, .long 0, .int 0, .null, .null, .null, .int 0, .int 0, .int 0, .int 0, .long 0, .int 0, .int 0, .null, .null, .null, .int 0, .null, .null]) (C := RX4) (T := TX4) (N := 25) hx hb hts (xcons inX4) tyX4 tyX4_ok hown hw3 hw4 hw5 hK hP hD hS hA rfl (fun j hj => by have h9 : j = 0 ∨ j = 1 ∨ j = 2 ∨ j = 3 ∨ j = 4 ∨ j = 5 ∨ j = 6 ∨ j = 7 ∨ j = 8 ∨ j = 9 ∨ j = 10 ∨ j = 11 ∨ j = 12 ∨ j = 13 ∨ j = 14 ∨ j = 15 ∨ j = 16 ∨ j = 17 ∨ j = 18 ∨ j = 19 ∨ j = 20 ∨ j = 21 ∨ j = 22 ∨ j = 23 ∨ j = 24 := (by omega); rcases h9 with rfl | rfl | rfl | rfl | rfl | rfl | rfl | rfl | rfl | rfl | rfl | rfl | rfl | rfl | rfl | rfl | rfl | rfl | rfl | rfl | rfl | rfl | rfl | rfl | rfl <;> rfl) (Nat.le_of_ble_eq_true rfl) (Nat.le_of_ble_eq_true rfl) dL_law_13 (fun q13 H hP hD hS => ?_)
  have hP : va_P (dC, dI) vwCl [(q0, .inr (3, [.ref a1_9, .ref a5_9, .ref a9_9])), (a1_9, .inr (1, [.int (nI nv), .int (((1 : Int32) <<< ((nI nv) &&& 31)) - 1), .int 0, .ref a2_9, .ref a3_9, .ref a4_9])), (a2_9, .inl (cI, 40, .inl (fun _ => 0))), (a3_9, .inl (cI, 40, .inl (fun _ => 0))), (a4_9, .inl (cI, 40, .inl (fun _ => 0))), (a5_9, .inr (0, [.ref a1_9, .ref a6_9, .int 0, .long 0, .int 0, .int 0, .ref a7_9, .ref a8_9, .int 0])), (a6_9, .inl (cL, 40, .inr (.inl (fun _ => 0)))), (a7_9, .inl (cI, 10, .inl (fun _ => 0))), (a8_9, .inl (cI, 10, .inl (fun _ => 0))), (a9_9, .inr (2, [.int 0, .int 0, .long (-1), .int 0, .ref a10_9, .ref a11_9, .ref a12_9, .ref a1_9, .ref a5_9, .ref a13_9, .ref a14_9, .int 0])), (a10_9, .inl (cI, lz, .inl (fun _ => 0))), (a11_9, .inl (cI, lz, .inl (fun _ => 0))), (a12_9, .inl (cL, lz, .inr (.inl (fun _ => 0)))), (a13_9, .inl (cI, 11, .inl (fun _ => 0))), (a14_9, .inl (cI, 11, .inl (fun _ => 0))), (q13, .inr (4, [.int 0, .int 0, .int 0, .null, .null, .null, .int 0, .long 0, .int 0, .null, .null, .null, .int 0, .int 0, .int 0, .int 0, .long 0, .int 0, .int 0, .null, .null, .null, .int 0, .null, .null]))] H := hP
  have hD : va_D (fun q : Nat => s.heap.size ≤ q) [(q0, .inr (3, [.ref a1_9, .ref a5_9, .ref a9_9])), (a1_9, .inr (1, [.int (nI nv), .int (((1 : Int32) <<< ((nI nv) &&& 31)) - 1), .int 0, .ref a2_9, .ref a3_9, .ref a4_9])), (a2_9, .inl (cI, 40, .inl (fun _ => 0))), (a3_9, .inl (cI, 40, .inl (fun _ => 0))), (a4_9, .inl (cI, 40, .inl (fun _ => 0))), (a5_9, .inr (0, [.ref a1_9, .ref a6_9, .int 0, .long 0, .int 0, .int 0, .ref a7_9, .ref a8_9, .int 0])), (a6_9, .inl (cL, 40, .inr (.inl (fun _ => 0)))), (a7_9, .inl (cI, 10, .inl (fun _ => 0))), (a8_9, .inl (cI, 10, .inl (fun _ => 0))), (a9_9, .inr (2, [.int 0, .int 0, .long (-1), .int 0, .ref a10_9, .ref a11_9, .ref a12_9, .ref a1_9, .ref a5_9, .ref a13_9, .ref a14_9, .int 0])), (a10_9, .inl (cI, lz, .inl (fun _ => 0))), (a11_9, .inl (cI, lz, .inl (fun _ => 0))), (a12_9, .inl (cL, lz, .inr (.inl (fun _ => 0)))), (a13_9, .inl (cI, 11, .inl (fun _ => 0))), (a14_9, .inl (cI, 11, .inl (fun _ => 0))), (q13, .inr (4, [.int 0, .int 0, .int 0, .null, .null, .null, .int 0, .long 0, .int 0, .null, .null, .null, .int 0, .int 0, .int 0, .int 0, .long 0, .int 0, .int 0, .null, .null, .null, .int 0, .null, .null]))] := hD
  refine lv_dup hx hb dL_law_16 rfl ?_
  refine lv_aload_n hx hb dL_law_17 rfl (lv_at hl 1 rfl) ?_
  refine lv_iconst (v := 0) hx hb dL_law_18 (by decide) ?_
  refine xro_im (va_runS (As := [.ref b, .int 0]) (rest := [.ref q13, .ref q13]) ⟨hx, hb, hml, hown, hts⟩ (h_cell l b L xs hL) (xcwS 2 hts wd_358 wd_33 wd_356 wd_357 rfl rfl (by decide +kernel) ⟨Nat.le_of_ble_eq_true rfl, Nat.le_of_ble_eq_true rfl⟩) (xpreC hX hbl (hS.2.1 b hbl (Nat.not_le.mpr hbl)) hS.1) rfl rfl hl.1 rfl (lv_room (Nat.le_of_ble_eq_true rfl)) dL_law_19 ⟨Nat.le_of_ble_eq_true rfl, Nat.le_of_ble_eq_true rfl⟩) hS (fun H locs hk hS => ?_)
  rw [← hn0]
  have hP := xkeep hP hk
  have hPc := hP.sub (ws' := [(q13, .inr (4, [.int 0, .int 0, .int 0, .null, .null, .null, .int 0, .long 0, .int 0, .null, .null, .null, .int 0, .int 0, .int 0, .int 0, .long 0, .int 0, .int 0, .null, .null, .null, .int 0, .null, .null]))]) [15] rfl
  have hDc := hD.sub (ws' := [(q13, .inr (4, [.int 0, .int 0, .int 0, .null, .null, .null, .int 0, .long 0, .int 0, .null, .null, .null, .int 0, .int 0, .int 0, .int 0, .long 0, .int 0, .int 0, .null, .null, .null, .int 0, .null, .null]))]) [15] (by decide) rfl
  have hFc := va_free (wc := [(q13, .inr (4, [.int 0, .int 0, .int 0, .null, .null, .null, .int 0, .long 0, .int 0, .null, .null, .null, .int 0, .int 0, .int 0, .int 0, .long 0, .int 0, .int 0, .null, .null, .null, .int 0, .null, .null]))]) hD hS hA [15] rfl
  refine va_callv (va_runI (As := [.int n0]) (rest := [.ref q13]) ⟨hx, hb, hml, hown, hts⟩ (c_X4_init l dC dI cI cL cZ q13 _ n0 nv hnvM) (xcwI 1 hts wd_528 wd_39 wd_526 wd_527 rfl rfl rfl (by decide +kernel) ⟨Nat.le_of_ble_eq_true rfl, Nat.le_of_ble_eq_true rfl⟩) ⟨fun a U g mk q => by obtain ⟨q0, q1, qP, qK, qD⟩ := q; exact ⟨q0, q1, qP, va_K.moved (u := U) (U := U.calling g mk a) (Vm.Alike.refl U.vm) qK, qD⟩, fun U hU hW => ⟨rfl, by rw [hU], by rw [hU]; exact hPc, va_K.moved hW.alike hK, hDc.weaken (fun _ _ _ _ => trivial)⟩⟩ rfl rfl hl.1 rfl (lv_room (Nat.le_of_ble_eq_true rfl)) dL_law_22 ⟨Nat.le_of_ble_eq_true rfl, Nat.le_of_ble_eq_true rfl⟩) hS (fun q _ h => hFc q h) hFc (fun u t H1 locs ht hvm h22 hB hz1 hk1 hS => ?_)
  obtain ⟨a1_22, a2_22, a3_22, a4_22, a5_22, a6_22, a7_22, a8_22, a9_22, a10_22, a11_22⟩ := u
  obtain ⟨hP1, hD1⟩ := hB
  rw [ht] at hP1
  obtain ⟨hP, hD⟩ := va_join (wr := [(q0, .inr (3, [.ref a1_9, .ref a5_9, .ref a9_9])), (a1_9, .inr (1, [.int (nI nv), .int (((1 : Int32) <<< ((nI nv) &&& 31)) - 1), .int 0, .ref a2_9, .ref a3_9, .ref a4_9])), (a2_9, .inl (cI, 40, .inl (fun _ => 0))), (a3_9, .inl (cI, 40, .inl (fun _ => 0))), (a4_9, .inl (cI, 40, .inl (fun _ => 0))), (a5_9, .inr (0, [.ref a1_9, .ref a6_9, .int 0, .long 0, .int 0, .int 0, .ref a7_9, .ref a8_9, .int 0])), (a6_9, .inl (cL, 40, .inr (.inl (fun _ => 0)))), (a7_9, .inl (cI, 10, .inl (fun _ => 0))), (a8_9, .inl (cI, 10, .inl (fun _ => 0))), (a9_9, .inr (2, [.int 0, .int 0, .long (-1), .int 0, .ref a10_9, .ref a11_9, .ref a12_9, .ref a1_9, .ref a5_9, .ref a13_9, .ref a14_9, .int 0])), (a10_9, .inl (cI, lz, .inl (fun _ => 0))), (a11_9, .inl (cI, lz, .inl (fun _ => 0))), (a12_9, .inl (cL, lz, .inr (.inl (fun _ => 0)))), (a13_9, .inl (cI, 11, .inl (fun _ => 0))), (a14_9, .inl (cI, 11, .inl (fun _ => 0)))]) (w1 := [(q13, .inr (4, [.int 0, .int (nI nv), .int 0, .ref a1_22, .ref a2_22, .ref a3_22, .int 0, .long 0, .int 0, .ref a4_22, .ref a5_22, .ref a6_22, .int 0, .int 0, .int 0, .int 0, .long 0, .int 0, .int 0, .ref a7_22, .ref a8_22, .ref a9_22, .int 0, .ref a10_22, .ref a11_22])), (a1_22, .inl (cI, 40, .inl (fun _ => 0))), (a2_22, .inl (cI, 40, .inl (fun _ => 0))), (a3_22, .inl (cI, 40, .inl (fun _ => 0))), (a4_22, .inl (cL, 40, .inr (.inl (fun _ => 0)))), (a5_22, .inl (cZ, 40, .inl (fun _ => 0))), (a6_22, .inl (cI, 10, .inl (fun _ => 0))), (a7_22, .inl (cI, 1024, .inl (fun _ => 0))), (a8_22, .inl (cI, 1024, .inl (fun _ => 0))), (a9_22, .inl (cL, 1024, .inr (.inl (fun _ => 0)))), (a10_22, .inl (cI, 24, .inl (fun _ => 0))), (a11_22, .inl (cI, 24, .inl (fun _ => 0)))]) hP hD [15] [0, 1, 2, 3, 4, 5, 6, 7, 8, 9, 10, 11, 12, 13, 14] rfl rfl (by decide) (by decide) hk1 hFc hP1 hD1
  generalize H1 = H at hP hS ⊢
  have hP : va_P (dC, dI) vwCl [(q0, .inr (3, [.ref a1_9, .ref a5_9, .ref a9_9])), (a1_9, .inr (1, [.int (nI nv), .int (((1 : Int32) <<< ((nI nv) &&& 31)) - 1), .int 0, .ref a2_9, .ref a3_9, .ref a4_9])), (a2_9, .inl (cI, 40, .inl (fun _ => 0))), (a3_9, .inl (cI, 40, .inl (fun _ => 0))), (a4_9, .inl (cI, 40, .inl (fun _ => 0))), (a5_9, .inr (0, [.ref a1_9, .ref a6_9, .int 0, .long 0, .int 0, .int 0, .ref a7_9, .ref a8_9, .int 0])), (a6_9, .inl (cL, 40, .inr (.inl (fun _ => 0)))), (a7_9, .inl (cI, 10, .inl (fun _ => 0))), (a8_9, .inl (cI, 10, .inl (fun _ => 0))), (a9_9, .inr (2, [.int 0, .int 0, .long (-1), .int 0, .ref a10_9, .ref a11_9, .ref a12_9, .ref a1_9, .ref a5_9, .ref a13_9, .ref a14_9, .int 0])), (a10_9, .inl (cI, lz, .inl (fun _ => 0))), (a11_9, .inl (cI, lz, .inl (fun _ => 0))), (a12_9, .inl (cL, lz, .inr (.inl (fun _ => 0)))), (a13_9, .inl (cI, 11, .inl (fun _ => 0))), (a14_9, .inl (cI, 11, .inl (fun _ => 0))), (q13, .inr (4, [.int 0, .int (nI nv), .int 0, .ref a1_22, .ref a2_22, .ref a3_22, .int 0, .long 0, .int 0, .ref a4_22, .ref a5_22, .ref a6_22, .int 0, .int 0, .int 0, .int 0, .long 0, .int 0, .int 0, .ref a7_22, .ref a8_22, .ref a9_22, .int 0, .ref a10_22, .ref a11_22])), (a1_22, .inl (cI, 40, .inl (fun _ => 0))), (a2_22, .inl (cI, 40, .inl (fun _ => 0))), (a3_22, .inl (cI, 40, .inl (fun _ => 0))), (a4_22, .inl (cL, 40, .inr (.inl (fun _ => 0)))), (a5_22, .inl (cZ, 40, .inl (fun _ => 0))), (a6_22, .inl (cI, 10, .inl (fun _ => 0))), (a7_22, .inl (cI, 1024, .inl (fun _ => 0))), (a8_22, .inl (cI, 1024, .inl (fun _ => 0))), (a9_22, .inl (cL, 1024, .inr (.inl (fun _ => 0)))), (a10_22, .inl (cI, 24, .inl (fun _ => 0))), (a11_22, .inl (cI, 24, .inl (fun _ => 0)))] H := hP
  have hD : va_D (fun q : Nat => s.heap.size ≤ q) [(q0, .inr (3, [.ref a1_9, .ref a5_9, .ref a9_9])), (a1_9, .inr (1, [.int (nI nv), .int (((1 : Int32) <<< ((nI nv) &&& 31)) - 1), .int 0, .ref a2_9, .ref a3_9, .ref a4_9])), (a2_9, .inl (cI, 40, .inl (fun _ => 0))), (a3_9, .inl (cI, 40, .inl (fun _ => 0))), (a4_9, .inl (cI, 40, .inl (fun _ => 0))), (a5_9, .inr (0, [.ref a1_9, .ref a6_9, .int 0, .long 0, .int 0, .int 0, .ref a7_9, .ref a8_9, .int 0])), (a6_9, .inl (cL, 40, .inr (.inl (fun _ => 0)))), (a7_9, .inl (cI, 10, .inl (fun _ => 0))), (a8_9, .inl (cI, 10, .inl (fun _ => 0))), (a9_9, .inr (2, [.int 0, .int 0, .long (-1), .int 0, .ref a10_9, .ref a11_9, .ref a12_9, .ref a1_9, .ref a5_9, .ref a13_9, .ref a14_9, .int 0])), (a10_9, .inl (cI, lz, .inl (fun _ => 0))), (a11_9, .inl (cI, lz, .inl (fun _ => 0))), (a12_9, .inl (cL, lz, .inr (.inl (fun _ => 0)))), (a13_9, .inl (cI, 11, .inl (fun _ => 0))), (a14_9, .inl (cI, 11, .inl (fun _ => 0))), (q13, .inr (4, [.int 0, .int (nI nv), .int 0, .ref a1_22, .ref a2_22, .ref a3_22, .int 0, .long 0, .int 0, .ref a4_22, .ref a5_22, .ref a6_22, .int 0, .int 0, .int 0, .int 0, .long 0, .int 0, .int 0, .ref a7_22, .ref a8_22, .ref a9_22, .int 0, .ref a10_22, .ref a11_22])), (a1_22, .inl (cI, 40, .inl (fun _ => 0))), (a2_22, .inl (cI, 40, .inl (fun _ => 0))), (a3_22, .inl (cI, 40, .inl (fun _ => 0))), (a4_22, .inl (cL, 40, .inr (.inl (fun _ => 0)))), (a5_22, .inl (cZ, 40, .inl (fun _ => 0))), (a6_22, .inl (cI, 10, .inl (fun _ => 0))), (a7_22, .inl (cI, 1024, .inl (fun _ => 0))), (a8_22, .inl (cI, 1024, .inl (fun _ => 0))), (a9_22, .inl (cL, 1024, .inr (.inl (fun _ => 0)))), (a10_22, .inl (cI, 24, .inl (fun _ => 0))), (a11_22, .inl (cI, 24, .inl (fun _ => 0)))] := hD
  refine lv_astore_n (lv' := [(2, .ref q13), (1, .ref q0), (0, .ref b)]) hx hb dL_law_25 rfl hl (by decide) rfl (fun ls hl => ?_)
  refine lv_iconst (v := 1) hx hb dL_law_26 (by decide) ?_
  refine va_newa (atype := .long) (ty := .long) (a0 := (1, .inr (.inl (fun _ => 0)))) (N' := 1) hx hb hw6 rfl hK hP hD hS hA (xz_l 1) (by decide) (by decide) (by show 1 * 8 ≤ 536870912; omega) (Nat.le_of_ble_eq_true rfl) (Nat.le_of_ble_eq_true rfl) dL_law_27 (fun q27 cA H hK9 hP hD hS => ?_)
  have hcA : cL = cA := (xcA .long (fun _ => rfl) hK9 1 rfl).symm; subst hcA
  have hP : va_P (dC, dI) vwCl [(q0, .inr (3, [.ref a1_9, .ref a5_9, .ref a9_9])), (a1_9, .inr (1, [.int (nI nv), .int (((1 : Int32) <<< ((nI nv) &&& 31)) - 1), .int 0, .ref a2_9, .ref a3_9, .ref a4_9])), (a2_9, .inl (cI, 40, .inl (fun _ => 0))), (a3_9, .inl (cI, 40, .inl (fun _ => 0))), (a4_9, .inl (cI, 40, .inl (fun _ => 0))), (a5_9, .inr (0, [.ref a1_9, .ref a6_9, .int 0, .long 0, .int 0, .int 0, .ref a7_9, .ref a8_9, .int 0])), (a6_9, .inl (cL, 40, .inr (.inl (fun _ => 0)))), (a7_9, .inl (cI, 10, .inl (fun _ => 0))), (a8_9, .inl (cI, 10, .inl (fun _ => 0))), (a9_9, .inr (2, [.int 0, .int 0, .long (-1), .int 0, .ref a10_9, .ref a11_9, .ref a12_9, .ref a1_9, .ref a5_9, .ref a13_9, .ref a14_9, .int 0])), (a10_9, .inl (cI, lz, .inl (fun _ => 0))), (a11_9, .inl (cI, lz, .inl (fun _ => 0))), (a12_9, .inl (cL, lz, .inr (.inl (fun _ => 0)))), (a13_9, .inl (cI, 11, .inl (fun _ => 0))), (a14_9, .inl (cI, 11, .inl (fun _ => 0))), (q13, .inr (4, [.int 0, .int (nI nv), .int 0, .ref a1_22, .ref a2_22, .ref a3_22, .int 0, .long 0, .int 0, .ref a4_22, .ref a5_22, .ref a6_22, .int 0, .int 0, .int 0, .int 0, .long 0, .int 0, .int 0, .ref a7_22, .ref a8_22, .ref a9_22, .int 0, .ref a10_22, .ref a11_22])), (a1_22, .inl (cI, 40, .inl (fun _ => 0))), (a2_22, .inl (cI, 40, .inl (fun _ => 0))), (a3_22, .inl (cI, 40, .inl (fun _ => 0))), (a4_22, .inl (cL, 40, .inr (.inl (fun _ => 0)))), (a5_22, .inl (cZ, 40, .inl (fun _ => 0))), (a6_22, .inl (cI, 10, .inl (fun _ => 0))), (a7_22, .inl (cI, 1024, .inl (fun _ => 0))), (a8_22, .inl (cI, 1024, .inl (fun _ => 0))), (a9_22, .inl (cL, 1024, .inr (.inl (fun _ => 0)))), (a10_22, .inl (cI, 24, .inl (fun _ => 0))), (a11_22, .inl (cI, 24, .inl (fun _ => 0))), (q27, .inl (cL, 1, .inr (.inl (fun _ => 0))))] H := hP
  have hD : va_D (fun q : Nat => s.heap.size ≤ q) [(q0, .inr (3, [.ref a1_9, .ref a5_9, .ref a9_9])), (a1_9, .inr (1, [.int (nI nv), .int (((1 : Int32) <<< ((nI nv) &&& 31)) - 1), .int 0, .ref a2_9, .ref a3_9, .ref a4_9])), (a2_9, .inl (cI, 40, .inl (fun _ => 0))), (a3_9, .inl (cI, 40, .inl (fun _ => 0))), (a4_9, .inl (cI, 40, .inl (fun _ => 0))), (a5_9, .inr (0, [.ref a1_9, .ref a6_9, .int 0, .long 0, .int 0, .int 0, .ref a7_9, .ref a8_9, .int 0])), (a6_9, .inl (cL, 40, .inr (.inl (fun _ => 0)))), (a7_9, .inl (cI, 10, .inl (fun _ => 0))), (a8_9, .inl (cI, 10, .inl (fun _ => 0))), (a9_9, .inr (2, [.int 0, .int 0, .long (-1), .int 0, .ref a10_9, .ref a11_9, .ref a12_9, .ref a1_9, .ref a5_9, .ref a13_9, .ref a14_9, .int 0])), (a10_9, .inl (cI, lz, .inl (fun _ => 0))), (a11_9, .inl (cI, lz, .inl (fun _ => 0))), (a12_9, .inl (cL, lz, .inr (.inl (fun _ => 0)))), (a13_9, .inl (cI, 11, .inl (fun _ => 0))), (a14_9, .inl (cI, 11, .inl (fun _ => 0))), (q13, .inr (4, [.int 0, .int (nI nv), .int 0, .ref a1_22, .ref a2_22, .ref a3_22, .int 0, .long 0, .int 0, .ref a4_22, .ref a5_22, .ref a6_22, .int 0, .int 0, .int 0, .int 0, .long 0, .int 0, .int 0, .ref a7_22, .ref a8_22, .ref a9_22, .int 0, .ref a10_22, .ref a11_22])), (a1_22, .inl (cI, 40, .inl (fun _ => 0))), (a2_22, .inl (cI, 40, .inl (fun _ => 0))), (a3_22, .inl (cI, 40, .inl (fun _ => 0))), (a4_22, .inl (cL, 40, .inr (.inl (fun _ => 0)))), (a5_22, .inl (cZ, 40, .inl (fun _ => 0))), (a6_22, .inl (cI, 10, .inl (fun _ => 0))), (a7_22, .inl (cI, 1024, .inl (fun _ => 0))), (a8_22, .inl (cI, 1024, .inl (fun _ => 0))), (a9_22, .inl (cL, 1024, .inr (.inl (fun _ => 0)))), (a10_22, .inl (cI, 24, .inl (fun _ => 0))), (a11_22, .inl (cI, 24, .inl (fun _ => 0))), (q27, .inl (cL, 1, .inr (.inl (fun _ => 0))))] := hD
  refine lv_astore_n (lv' := [(3, .ref q27), (2, .ref q13), (1, .ref q0), (0, .ref b)]) hx hb dL_law_29 rfl hl (by decide) rfl (fun ls hl => ?_)
  refine lv_iconst (v := 1) hx hb dL_law_30 (by decide) ?_
  refine lv_istore (lv' := [(4, .int 1), (3, .ref q27), (2, .ref q13), (1, .ref q0), (0, .ref b)]) hx hb dL_law_31 hl (by decide) rfl (fun ls hl => ?_)
  have hP := hP.sub (ws' := [(q0, .inr (3, [.ref a1_9, .ref a5_9, .ref a9_9])), (a1_9, .inr (1, [.int (nI nv), .int (((1 : Int32) <<< ((nI nv) &&& 31)) - 1), .int 0, .ref a2_9, .ref a3_9, .ref a4_9])), (a2_9, .inl (cI, 40, .inl (fun _ => 0))), (a3_9, .inl (cI, 40, .inl (fun _ => 0))), (a4_9, .inl (cI, 40, .inl (fun _ => 0))), (a5_9, .inr (0, [.ref a1_9, .ref a6_9, .int 0, .long 0, .int 0, .int 0, .ref a7_9, .ref a8_9, .int 0])), (a6_9, .inl (cL, 40, .inr (.inl (fun _ => 0)))), (a7_9, .inl (cI, 10, .inl (fun _ => 0))), (a8_9, .inl (cI, 10, .inl (fun _ => 0))), (a9_9, .inr (2, [.int 0, .int 0, .long (-1), .int 0, .ref a10_9, .ref a11_9, .ref a12_9, .ref a1_9, .ref a5_9, .ref a13_9, .ref a14_9, .int 0])), (a10_9, .inl (cI, lz, .inl (fun _ => 0))), (a11_9, .inl (cI, lz, .inl (fun _ => 0))), (a12_9, .inl (cL, lz, .inr (.inl (fun _ => 0)))), (a13_9, .inl (cI, 11, .inl (fun _ => 0))), (a14_9, .inl (cI, 11, .inl (fun _ => 0))), (q27, .inl (cL, 1, .inr (.inl (fun _ => 0)))), (q13, .inr (4, [.int 0, .int (nI nv), .int 0, .ref a1_22, .ref a2_22, .ref a3_22, .int 0, .long 0, .int 0, .ref a4_22, .ref a5_22, .ref a6_22, .int 0, .int 0, .int 0, .int 0, .long 0, .int 0, .int 0, .ref a7_22, .ref a8_22, .ref a9_22, .int 0, .ref a10_22, .ref a11_22])), (a1_22, .inl (cI, 40, .inl (fun _ => 0))), (a2_22, .inl (cI, 40, .inl (fun _ => 0))), (a3_22, .inl (cI, 40, .inl (fun _ => 0))), (a4_22, .inl (cL, 40, .inr (.inl (fun _ => 0)))), (a5_22, .inl (cZ, 40, .inl (fun _ => 0))), (a6_22, .inl (cI, 10, .inl (fun _ => 0))), (a7_22, .inl (cI, 1024, .inl (fun _ => 0))), (a8_22, .inl (cI, 1024, .inl (fun _ => 0))), (a9_22, .inl (cL, 1024, .inr (.inl (fun _ => 0)))), (a10_22, .inl (cI, 24, .inl (fun _ => 0))), (a11_22, .inl (cI, 24, .inl (fun _ => 0)))]) [0, 1, 2, 3, 4, 5, 6, 7, 8, 9, 10, 11, 12, 13, 14, 27, 15, 16, 17, 18, 19, 20, 21, 22, 23, 24, 25, 26] rfl
  have hD := hD.sub (ws' := [(q0, .inr (3, [.ref a1_9, .ref a5_9, .ref a9_9])), (a1_9, .inr (1, [.int (nI nv), .int (((1 : Int32) <<< ((nI nv) &&& 31)) - 1), .int 0, .ref a2_9, .ref a3_9, .ref a4_9])), (a2_9, .inl (cI, 40, .inl (fun _ => 0))), (a3_9, .inl (cI, 40, .inl (fun _ => 0))), (a4_9, .inl (cI, 40, .inl (fun _ => 0))), (a5_9, .inr (0, [.ref a1_9, .ref a6_9, .int 0, .long 0, .int 0, .int 0, .ref a7_9, .ref a8_9, .int 0])), (a6_9, .inl (cL, 40, .inr (.inl (fun _ => 0)))), (a7_9, .inl (cI, 10, .inl (fun _ => 0))), (a8_9, .inl (cI, 10, .inl (fun _ => 0))), (a9_9, .inr (2, [.int 0, .int 0, .long (-1), .int 0, .ref a10_9, .ref a11_9, .ref a12_9, .ref a1_9, .ref a5_9, .ref a13_9, .ref a14_9, .int 0])), (a10_9, .inl (cI, lz, .inl (fun _ => 0))), (a11_9, .inl (cI, lz, .inl (fun _ => 0))), (a12_9, .inl (cL, lz, .inr (.inl (fun _ => 0)))), (a13_9, .inl (cI, 11, .inl (fun _ => 0))), (a14_9, .inl (cI, 11, .inl (fun _ => 0))), (q27, .inl (cL, 1, .inr (.inl (fun _ => 0)))), (q13, .inr (4, [.int 0, .int (nI nv), .int 0, .ref a1_22, .ref a2_22, .ref a3_22, .int 0, .long 0, .int 0, .ref a4_22, .ref a5_22, .ref a6_22, .int 0, .int 0, .int 0, .int 0, .long 0, .int 0, .int 0, .ref a7_22, .ref a8_22, .ref a9_22, .int 0, .ref a10_22, .ref a11_22])), (a1_22, .inl (cI, 40, .inl (fun _ => 0))), (a2_22, .inl (cI, 40, .inl (fun _ => 0))), (a3_22, .inl (cI, 40, .inl (fun _ => 0))), (a4_22, .inl (cL, 40, .inr (.inl (fun _ => 0)))), (a5_22, .inl (cZ, 40, .inl (fun _ => 0))), (a6_22, .inl (cI, 10, .inl (fun _ => 0))), (a7_22, .inl (cI, 1024, .inl (fun _ => 0))), (a8_22, .inl (cI, 1024, .inl (fun _ => 0))), (a9_22, .inl (cL, 1024, .inr (.inl (fun _ => 0)))), (a10_22, .inl (cI, 24, .inl (fun _ => 0))), (a11_22, .inl (cI, 24, .inl (fun _ => 0)))]) [0, 1, 2, 3, 4, 5, 6, 7, 8, 9, 10, 11, 12, 13, 14, 27, 15, 16, 17, 18, 19, 20, 21, 22, 23, 24, 25, 26] (by decide) rfl
  obtain ⟨ad, g0, g1, g2, g3, g4, g5, g6, g7, g8, g9, g10, g11, g12, g13, g14, g15, g16, g17, g18, g19, g20, g21, g22, g23, g24, g25, g26, g27⟩ : ∃ ad : Nat → Nat, ad 0 = q0 ∧ ad 1 = a1_9 ∧ ad 2 = a2_9 ∧ ad 3 = a3_9 ∧ ad 4 = a4_9 ∧ ad 5 = a5_9 ∧ ad 6 = a6_9 ∧ ad 7 = a7_9 ∧ ad 8 = a8_9 ∧ ad 9 = a9_9 ∧ ad 10 = a10_9 ∧ ad 11 = a11_9 ∧ ad 12 = a12_9 ∧ ad 13 = a13_9 ∧ ad 14 = a14_9 ∧ ad 15 = q27 ∧ ad 16 = q13 ∧ ad 17 = a1_22 ∧ ad 18 = a2_22 ∧ ad 19 = a3_22 ∧ ad 20 = a4_22 ∧ ad 21 = a5_22 ∧ ad 22 = a6_22 ∧ ad 23 = a7_22 ∧ ad 24 = a8_22 ∧ ad 25 = a9_22 ∧ ad 26 = a10_22 ∧ ad 27 = a11_22 := ⟨fun i => [q0, a1_9, a2_9, a3_9, a4_9, a5_9, a6_9, a7_9, a8_9, a9_9, a10_9, a11_9, a12_9, a13_9, a14_9, q27, q13, a1_22, a2_22, a3_22, a4_22, a5_22, a6_22, a7_22, a8_22, a9_22, a10_22, a11_22].getD i 0, rfl, rfl, rfl, rfl, rfl, rfl, rfl, rfl, rfl, rfl, rfl, rfl, rfl, rfl, rfl, rfl, rfl, rfl, rfl, rfl, rfl, rfl, rfl, rfl, rfl, rfl, rfl, rfl⟩
  subst g0
  subst g1
  subst g2
  subst g3
  subst g4
  subst g5
  subst g6
  subst g7
  subst g8
  subst g9
  subst g10
  subst g11
  subst g12
  subst g13
  subst g14
  subst g15
  subst g16
  subst g17
  subst g18
  subst g19
  subst g20
  subst g21
  subst g22
  subst g23
  subst g24
  subst g25
  subst g26
  subst g27
  obtain ⟨hinj, had⟩ := xD_I (ad := ad) (n := 28) hD rfl
  have CC : xLC p l s m meth c b L xs dC dI cI cL cZ ad nv lz := ⟨hx, hb, hr, hml, hown, hts, hX, hbl, hL, hlt, hE, hN, hK, hinj, had, hz, hz2⟩
  have hLaw : xLaw dC dI cI cL cZ ad nv lz H := ⟨0, (fun _ => 0), (fun _ => 0), (fun _ => 0), (fun _ => 0), 0, 0, 0, 0, (fun _ => 0), (fun _ => 0), 0, 0, 0, (-1), 0, (fun _ => 0), (fun _ => 0), (fun _ => 0), (fun _ => 0), (fun _ => 0), 0, (fun _ => 0), 0, 0, 0, 0, (fun _ => 0), (fun _ => 0), (fun _ => 0), 0, 0, 0, 0, 0, 0, (fun _ => 0), (fun _ => 0), (fun _ => 0), 0, (fun _ => 0), (fun _ => 0), hP, ⟨h1, h2, by omega, fun i hi => by omega, fun i hi => by omega⟩, xSR.start _ _ _ _ _ _ _ _ _, Nat.zero_le _, by omega⟩
  refine W.widen (k := 28) (n := 5300) (Nat.le_of_ble_eq_true rfl) (Nat.le_of_ble_eq_true rfl) ?_
  exact lw_loop CC hlocks 512 1 28 5300 H locs ls (by omega) (by omega) (by omega) (by omega) hLaw hS (lv_sub hl [4, 3, 2, 1, 0] rfl)
