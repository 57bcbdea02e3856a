/-! my own rows: the law's loop -/
theorem xlt6 {L i : Nat} (hL : L ≤ 3073) (hi : i ≤ 4000) : (nI L - 6 < nI i) ↔ L < i + 6 := by
  rcases Nat.lt_or_ge L 6 with h | h
  · have h1 : ∀ n, n < 6 → nI n - 6 < 0 := by decide +kernel
    have h2 := h1 L h
    have h3 : (0 : Int32) ≤ nI i := nI_pos' (by omega)
    constructor
    · intro _; omega
    · intro _
      rw [Int32.lt_iff_toInt_lt] at h2 ⊢
      rw [Int32.le_iff_toInt_le] at h3
      omega
  · obtain ⟨k, rfl⟩ : ∃ k, L = k + 6 := ⟨L - 6, by omega⟩
    have h1 : nI (k + 6) - 6 = nI k := by
      rw [← nI_add]
      have : nI 6 = 6 := by decide
      rw [this, Int32.add_sub_cancel]
    rw [h1, nI_ltI (by omega) (by omega)]
    omega
theorem b_15 : ∀ i, i < 32 → bt 15 i = decide (i < 4) := by decide +kernel
theorem x15 (x : Int32) : ∃ k, k < 16 ∧ x &&& 15 = nI k := by
  obtain ⟨a, h1, h2⟩ := e_nat (x := x &&& 15) (n := 4) (by omega) (fun i hi hb => by
    rw [b_and, b_15 i hi] at hb
    have := (Bool.and_eq_true_iff.mp hb).2
    simpa using this)
  exact ⟨a, by omega, h2⟩
set_option maxHeartbeats 8000000 in
set_option maxRecDepth 100000 in
theorem lw_loop {p : Program} {l : Launch} {e : Env} {s : State} {m : MethodId} {below : List Frame} {meth : Method} {c : Code} {b L : Nat} {xs : Nat → Int32} {dC : Nat → ClassId} {dI : Nat → Nat → Nat} {cI cL cZ : ClassId} {ad : Nat → Nat} {nv lz : Nat} (CC : xLC p l s m meth c b L xs dC dI cI cL cZ ad nv lz) (hlocks : meth.locks = false) :
    ∀ (n i cells slots : Nat) (H : Heap) (locs : List Loc) (ls : Array Slot), L < i + 6 * n + 6 → i ≤ 3080 → cells + n ≤ 600000 → slots + 6 * n ≤ 7000000 → xLaw dC dI cI cL cZ ad nv lz H → va_S (fun q => s.heap.size ≤ q) s.heap H locs → lv_has ls 8 [(0, .ref b), (1, .ref (ad 0)), (2, .ref (ad 16)), (3, .ref (ad 15)), (4, .int (nI i))] →
      W p l e room_1 s m #[Value.ref b] below meth c H locs cells slots (lw_Z below #[Value.ref b] s) (F0 m 33 ls []) := by
  have CC0 := CC
  obtain ⟨hx, hb, hr, hml, hown, hts, hX, hbl, hL, hlt, hE, hN, hK, hinj, had, hz, hlz⟩ := CC0
  have hend : ∀ (H : Heap) (locs : List Loc) (ls : Array Slot) (cells slots : Nat), cells ≤ 601024 → slots ≤ 7293000 → va_S (fun q => s.heap.size ≤ q) s.heap H locs → W p l e room_1 s m #[Value.ref b] below meth c H locs cells slots (lw_Z below #[Value.ref b] s) (F0 m 750 ls []) := by
    intro H locs ls cells slots h1 h2 hS
    refine va_forget hS.2.2 ?_
    refine W.widen (k := 601024) (n := 7293000) h1 h2 ?_
    refine lv_iconst (v := 1) hx hb dL_law_750 (by decide) ?_
    exact lw_ret hx hb hr hlocks dL_law_751
  intro n
  induction n with
  | zero =>
    intro i cells slots H locs ls hn hi hcc hss hLaw hS hl
    refine lv_iload hx hb dL_law_33 (lv_at hl 4 rfl) ?_
    refine lv_aload_n hx hb dL_law_35 rfl (lv_at hl 0 rfl) ?_
    refine va_slen hx hb hX hbl (Nat.not_le.mpr hbl) hS dL_law_36 ?_
    refine lv_bipush (v := 6) hx hb dL_law_37 (by decide) ?_
    refine lv_isub hx hb dL_law_39 ?_
    have hgt : nI L - 6 < nI i := (xlt6 hL (by omega)).mpr (by omega)
    refine lv_icmp_gt (tgt := 750) hx hb dL_law_40 (by decide) (fun _ => ?_) (fun h => absurd hgt h)
    exact hend H locs ls cells slots (by omega) (by omega) hS
  | succ n ih =>
    intro i cells slots H locs ls hn hi hcc hss hLaw hS hl
    refine lv_iload hx hb dL_law_33 (lv_at hl 4 rfl) ?_
    refine lv_aload_n hx hb dL_law_35 rfl (lv_at hl 0 rfl) ?_
    refine va_slen hx hb hX hbl (Nat.not_le.mpr hbl) hS dL_law_36 ?_
    refine lv_bipush (v := 6) hx hb dL_law_37 (by decide) ?_
    refine lv_isub hx hb dL_law_39 ?_
    refine lv_icmp_gt (tgt := 750) hx hb dL_law_40 (by decide) (fun _ => ?_) (fun h => ?_)
    · exact hend H locs ls cells slots (by omega) (by omega) hS
    · have hi6 : i + 6 ≤ L := Nat.le_of_not_lt fun q => h ((xlt6 hL (by omega)).mpr q)
      refine lv_aload_n hx hb dL_law_43 rfl (lv_at hl 0 rfl) ?_
      refine lv_iload hx hb dL_law_44 (lv_at hl 4 rfl) ?_
      refine xr_sld hx hb hX hbl (Nat.not_le.mpr hbl) hS (j := i) (by omega) hL dL_law_46 ?_
      refine lv_bipush (v := 15) hx hb dL_law_47 (by decide) ?_
      refine lv_iand hx hb dL_law_49 ?_
      have hnx : ∀ (H : Heap) (locs : List Loc) (ls : Array Slot), xLaw dC dI cI cL cZ ad nv lz H → va_S (fun q => s.heap.size ≤ q) s.heap H locs → lv_has ls 8 [(0, .ref b), (1, .ref (ad 0)), (2, .ref (ad 16)), (3, .ref (ad 15)), (4, .int (nI i))] → W p l e room_1 s m #[Value.ref b] below meth c H locs (cells + 1) (slots + 6) (lw_Z below #[Value.ref b] s) (F0 m 744 ls []) := by
        intro H locs ls hLaw hS hl
        refine lv_iinc (k := 4) (v := nI (i + 6)) (lv' := [(4, .int (nI (i + 6))), (0, .ref b), (1, .ref (ad 0)), (2, .ref (ad 16)), (3, .ref (ad 15))]) hx hb dL_law_744 hl rfl (by rw [show Int32.ofInt 6 = nI 6 by decide, nI_add]) (by decide) rfl (fun ls hl => ?_)
        refine lv_goto (tgt := 33) hx hb dL_law_747 (by decide) ?_
        exact ih (i + 6) (cells + 1) (slots + 6) H locs ls (by omega) (by omega) (by omega) (by omega) hLaw hS (lv_sub hl [1, 2, 3, 4, 0] rfl)
      have h1 : cells + 1 ≤ 601024 := by omega
      have h2 : slots + 6 ≤ 7293000 := by omega
      obtain ⟨k, hk, ek⟩ := x15 (xs i)
      rw [ek]
      have hk' : k = 0 ∨ k = 1 ∨ k = 2 ∨ k = 3 ∨ k = 4 ∨ k = 5 ∨ k = 6 ∨ k = 7 ∨ k = 8 ∨ k = 9 ∨ k = 10 ∨ k = 11 ∨ k = 12 ∨ k = 13 ∨ k = 14 ∨ k = 15 := by omega
      rcases hk' with rfl | rfl | rfl | rfl | rfl | rfl | rfl | rfl | rfl | rfl | rfl | rfl | rfl | rfl | rfl | rfl
      · exact lv_tableIn (off := 74) (tgt := 124) hx hb dL_law_50 (by decide) (by decide) (by decide) (by decide) (lw_case_0 CC hi6 h1 h2 hLaw hS hl hnx)
      · exact lv_tableIn (off := 87) (tgt := 137) hx hb dL_law_50 (by decide) (by decide) (by decide) (by decide) (lw_case_1 CC hi6 h1 h2 hLaw hS hl hnx)
      · exact lv_tableIn (off := 191) (tgt := 241) hx hb dL_law_50 (by decide) (by decide) (by decide) (by decide) (lw_case_2 CC hi6 h1 h2 hLaw hS hl hnx)
      · exact lv_tableIn (off := 204) (tgt := 254) hx hb dL_law_50 (by decide) (by decide) (by decide) (by decide) (lw_case_3 CC hi6 h1 h2 hLaw hS hl hnx)
      · exact lv_tableIn (off := 272) (tgt := 322) hx hb dL_law_50 (by decide) (by decide) (by decide) (by decide) (lw_case_4 CC hi6 h1 h2 hLaw hS hl hnx)
      · exact lv_tableIn (off := 285) (tgt := 335) hx hb dL_law_50 (by decide) (by decide) (by decide) (by decide) (lw_case_5 CC hi6 h1 h2 hLaw hS hl hnx)
      · exact lv_tableIn (off := 352) (tgt := 402) hx hb dL_law_50 (by decide) (by decide) (by decide) (by decide) (lw_case_6 CC hi6 h1 h2 hLaw hS hl hnx)
      · exact lv_tableIn (off := 419) (tgt := 469) hx hb dL_law_50 (by decide) (by decide) (by decide) (by decide) (lw_case_7 CC hi6 h1 h2 hLaw hS hl hnx)
      · exact lv_tableIn (off := 498) (tgt := 548) hx hb dL_law_50 (by decide) (by decide) (by decide) (by decide) (lw_case_8 CC hi6 h1 h2 hLaw hS hl hnx)
      · exact lv_tableIn (off := 566) (tgt := 616) hx hb dL_law_50 (by decide) (by decide) (by decide) (by decide) (lw_case_9 CC hi6 h1 h2 hLaw hS hl hnx)
      · exact lv_tableIn (off := 580) (tgt := 630) hx hb dL_law_50 (by decide) (by decide) (by decide) (by decide) (lw_case_10 CC hi6 h1 h2 hLaw hS hl hnx)
      · exact lv_tableIn (off := 605) (tgt := 655) hx hb dL_law_50 (by decide) (by decide) (by decide) (by decide) (lw_case_11 CC hi6 h1 h2 hLaw hS hl hnx)
      · exact lv_tableIn (off := 618) (tgt := 668) hx hb dL_law_50 (by decide) (by decide) (by decide) (by decide) (lw_case_12 CC hi6 h1 h2 hLaw hS hl hnx)
      · exact lv_tableIn (off := 631) (tgt := 681) hx hb dL_law_50 (by decide) (by decide) (by decide) (by decide) (lw_case_13 CC hi6 h1 h2 hLaw hS hl hnx)
      · exact lv_tableIn (off := 668) (tgt := 718) hx hb dL_law_50 (by decide) (by decide) (by decide) (by decide) (lw_case_14 CC hi6 h1 h2 hLaw hS hl hnx)
      · refine lv_tableOut (tgt := 744) hx hb dL_law_50 (by decide) (by decide) ?_
        refine W.widen (k := cells + 1) (n := slots + 6) (by omega) (by omega) ?_
        exact hnx H locs ls hLaw hS hl
