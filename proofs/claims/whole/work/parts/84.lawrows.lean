/-! my own rows: the law's state -/
/-- the law's heap: the class's fifteen cells, the long[1], the reference's twelve; they agree -/
def xLaw (dC : Nat → ClassId) (dI : Nat → Nat → Nat) (cI cL cZ : ClassId) (ad : Nat → Nat) (nv lz : Nat) (H : Heap) : Prop := ∃ (nc : Nat) (mt : Nat → Int32) (mf : Nat → Int32) (wt : Nat → Int32) (ss : Nat → Int64) (sc : Nat) (avl : Int64) (gh : Int32) (gv : Int32) (sv : Nat → Int32) (sr : Nat → Nat) (st : Nat) (nd : Int32) (lc : Nat) (bc : Int64) (bv : Int32) (lh : Nat → Int32) (lw : Nat → Int32) (lb : Nat → Int64) (wh : Nat → Int32) (wv : Nat → Int32) (wc : Nat) (of : Nat → Int64) (co : Int32) (hp : Int32) (bo : Int64) (su : Nat) (sm : Nat → Int64) (am : Nat → Int32) (re : Nat → Int32) (ghM : Int32) (gvM : Int32) (fo : Int32) (bvM : Int32) (bcM : Int64) (lo : Nat) (lhM : Nat → Int32) (lwM : Nat → Int32) (lbM : Nat → Int64) (wa : Nat) (whM : Nat → Int32) (wvM : Nat → Int32), va_P (dC, dI) vwCl [(ad 0, .inr (3, [.ref (ad 1), .ref (ad 5), .ref (ad 9)])), (ad 1, .inr (1, [.int (nI nv), .int (xAV nv), .int (nI nc), .ref (ad 2), .ref (ad 3), .ref (ad 4)])), (ad 2, .inl (cI, 40, .inl mt)), (ad 3, .inl (cI, 40, .inl mf)), (ad 4, .inl (cI, 40, .inl wt)), (ad 5, .inr (0, [.ref (ad 1), .ref (ad 6), .int (nI sc), .long avl, .int gh, .int gv, .ref (ad 7), .ref (ad 8), .int (nI st)])), (ad 6, .inl (cL, 40, .inr (.inl ss))), (ad 7, .inl (cI, 10, .inl sv)), (ad 8, .inl (cI, 10, .inl (xnI sr))), (ad 9, .inr (2, [.int nd, .int (nI lc), .long bc, .int bv, .ref (ad 10), .ref (ad 11), .ref (ad 12), .ref (ad 1), .ref (ad 5), .ref (ad 13), .ref (ad 14), .int (nI wc)])), (ad 10, .inl (cI, lz, .inl lh)), (ad 11, .inl (cI, lz, .inl lw)), (ad 12, .inl (cL, lz, .inr (.inl lb))), (ad 13, .inl (cI, 11, .inl wh)), (ad 14, .inl (cI, 11, .inl wv)), (ad 15, .inl (cL, 1, .inr (.inl of))), (ad 16, .inr (4, [.int co, .int (nI nv), .int (nI nc), .ref (ad 17), .ref (ad 18), .ref (ad 19), .int hp, .long bo, .int (nI su), .ref (ad 20), .ref (ad 21), .ref (ad 22), .int ghM, .int gvM, .int fo, .int bvM, .long bcM, .int nd, .int (nI lo), .ref (ad 23), .ref (ad 24), .ref (ad 25), .int (nI wa), .ref (ad 26), .ref (ad 27)])), (ad 17, .inl (cI, 40, .inl mt)), (ad 18, .inl (cI, 40, .inl mf)), (ad 19, .inl (cI, 40, .inl wt)), (ad 20, .inl (cL, 40, .inr (.inl sm))), (ad 21, .inl (cZ, 40, .inl am)), (ad 22, .inl (cI, 10, .inl re)), (ad 23, .inl (cI, 1024, .inl lhM)), (ad 24, .inl (cI, 1024, .inl lwM)), (ad 25, .inl (cL, 1024, .inr (.inl lbM))), (ad 26, .inl (cI, 24, .inl whM)), (ad 27, .inl (cI, 24, .inl wvM))] H ∧ xWF nv nc mt mf wt ∧ xSR bc bv lc lh lw lb fo bvM bcM lo lhM lwM lbM ∧ lc ≤ lz ∧ wc ≤ 11
def xW0 : Cond := .initialized "WeightedClausesLaw"
/-- what the law's walk stands on -/
def xLC (p : Program) (l : Launch) (s : State) (m : MethodId) (meth : Method) (c : Code) (b L : Nat) (xs : Nat → Int32) (dC : Nat → ClassId) (dI : Nat → Nat → Nat) (cI cL cZ : ClassId) (ad : Nat → Nat) (nv lz : Nat) : Prop :=
  p.tables.exec = Jvm.exec ∧ c.code = cL_law ∧ meth.sig.returnType = ret ∧ c.maxLocals = 8 ∧ s.vm.findClass RL = some m.cls ∧ (∀ w ∈ xW0 :: xtb, w.before #[Value.ref b] s = true) ∧ va_X b L xs s s.heap ∧ b < s.heap.size ∧ L ≤ 3073 ∧ (∀ e : Env, l.admits e → e.platform.stackTraces = false) ∧ xEx s ∧ xNo s ∧ va_K (dC, dI) vwCl [(cI, .int), (cL, .long), (cZ, .boolean)] s ∧ xI ad 28 ∧ (∀ i, i < 28 → s.heap.size ≤ ad i) ∧ lz = 2 ^ (nv - 1) ∧ lz ≤ 512
theorem xhi {ad : Nat → Nat} {n z : Nat} (had : ∀ i, i < n → z ≤ ad i) {is : List Nat} (h : is.all (fun i => decide (i < n)) = true) : ∀ q, xA ad is q → z ≤ q := fun q ⟨i, hi, e⟩ => by
  have := List.all_eq_true.mp h i hi
  rw [e]
  exact had i (by simpa using this)
theorem xgood {c0 w : Cond} (hw : w ∈ xtb) : GoodIn (c0 :: xtb) (w :: xtb) := fun q hq => (List.mem_cons.mp hq).elim (fun e => by subst e; exact ⟨List.mem_cons_of_mem _ hw, xtb_good _ hw⟩) (fun h => ⟨List.mem_cons_of_mem _ h, xtb_good _ h⟩)
section XLR
variable {p : Program} {l : Launch} {e : Env} {R : Room} {s : State} {m : MethodId} {args : Array Value} {below : List Frame} {meth : Method} {c : Code} {H : Heap} {locs : List Loc} {cells slots mc ms : Nat} {Q : State → Prop}
variable {cc : ByteArray} {pc : Nat} {ls : Array Slot} {rest st0 : List Value} {A0 : Nat → Prop} {H0 : Heap} {av : Array Value}
theorem xro_im {v : Int32} (hr : va_Run p l e R s m args below meth c H locs cells slots mc ms (F0 m pc ls st0) rest (va_Qi (fun r (_ : Unit) => v = r) (fun _ _ => True) xN av) xN) (hS : va_S A0 H0 H locs)
    (kk : ∀ (H1 : Heap) (locs1 : List Loc), (∀ q : Nat, q < H.size → H1[q]? = H[q]?) → va_S A0 H0 H1 locs1 → W p l e R s m args below meth c H1 locs1 (cells + mc) (slots + ms) Q (F0 m (pc + 3) ls (.int v :: rest))) : W p l e R s m args below meth c H locs cells slots Q (F0 m pc ls st0) :=
  va_calli hr hS (fun q _ h => h.elim) (fun q h => h.elim) (fun r u t H1 locs1 ht hvm hp hB hz hk hS1 => by
    have hp : v = r := hp
    subst hp
    exact kk H1 locs1 (fun q hq => hk q hq (fun h => h)) hS1)
theorem xr_addk (hexec : p.tables.exec = Jvm.exec) (hb : c.code = cc) {t k : Nat} (hdg : decode cc pc = .ok (.iadd, 1)) (kk : W p l e R s m args below meth c H locs cells slots Q (F0 m (pc + 1) ls (.int (nI (t + k)) :: rest))) : W p l e R s m args below meth c H locs cells slots Q (F0 m pc ls (.int (nI k) :: .int (nI t) :: rest)) := by
  refine lv_iadd hexec hb hdg ?_
  rw [nI_add]
  exact kk
theorem xr_sld (hexec : p.tables.exec = Jvm.exec) (hb : c.code = cc) {b L : Nat} {xs : Nat → Int32} (hX : va_X b L xs s H0) (hbl : b < H0.size) (hbA : ¬ A0 b) (hS : va_S A0 H0 H locs) {j : Nat} (hj : j < L) (hL : L ≤ 3073) (hdg : decode cc pc = .ok (.iaload, 1))
    (kk : W p l e R s m args below meth c H locs cells slots Q (F0 m (pc + 1) ls (.int (xs j) :: rest))) : W p l e R s m args below meth c H locs cells slots Q (F0 m pc ls (.int (nI j) :: .ref b :: rest)) := by
  refine va_sld hexec hb hX hbl hbA hS (vp_in_nI hj (by omega)) hdg ?_
  rw [nI_clamp (by omega)]
  exact kk
end XLR
theorem wd_361 : (.codeWith ⟨"WeightedClausesLaw","clause","(LWeightedClauses;IIIII[J)I"⟩ method_3_code 8 (some .int) [(0, 16, 19, 13), (0, 16, 23, 15)] : Cond) ∈ xtb := xtb_of 361 (by decide +kernel) rfl
theorem wd_476 : (.codeWith ⟨"WeightedClausesLaw","weigh","(LWeightedClauses;II[J)I"⟩ method_4_code 5 (some .int) [(0, 10, 13, 13)] : Cond) ∈ xtb := xtb_of 476 (by decide +kernel) rfl
theorem wd_487 : (.codeWith ⟨"WeightedClausesLaw","cost","(LWeightedClauses;II[J)I"⟩ method_5_code 5 (some .int) [(0, 9, 12, 13)] : Cond) ∈ xtb := xtb_of 487 (by decide +kernel) rfl
theorem wd_499 : (.codeWith ⟨"WeightedClausesLaw","bound","(LWeightedClauses;II[J)I"⟩ method_6_code 5 (some .int) [(0, 9, 12, 13)] : Cond) ∈ xtb := xtb_of 499 (by decide +kernel) rfl
theorem wd_507 : (.codeWith ⟨"WeightedClausesLaw","subset","(LWeightedClauses;III[J)I"⟩ method_7_code 6 (some .int) [(0, 11, 14, 13)] : Cond) ∈ xtb := xtb_of 507 (by decide +kernel) rfl
theorem wd_518 : (.codeWith ⟨"WeightedClausesLaw","first","(LWeightedClauses;II[J)I"⟩ method_8_code 5 (some .int) [(0, 10, 13, 13)] : Cond) ∈ xtb := xtb_of 518 (by decide +kernel) rfl
