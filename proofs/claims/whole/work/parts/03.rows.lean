theorem xcons {c0 : Cond} {ws : List Cond} (h : ∀ w ∈ ws, w ∈ xtb) : ∀ w ∈ ws, w ∈ c0 :: xtb := fun w hw => List.mem_cons_of_mem _ (h w hw)
section XCW
variable {R : Room} {s : State} {args : Array Value} {own : String} {index : Nat} {y : MethodName} {bytes : ByteArray} {maxL mc ms : Nat} {ret : Option FieldType} {rm : Room} {c0 : Cond}
theorem xcw (n : Nat) (hts : ∀ w ∈ c0 :: xtb, w.before args s = true) (hc : Cond.code y bytes maxL ret ∈ xtb) (hini : Cond.initialized y.cls ∈ xtb) (hl : Cond.methodLink own index y ∈ xtb) (hrc : rm.cells = mc) (hrs : rm.slots = ms)
    (hd : y.cls ≠ "java/lang/invoke/MethodHandle" ∧ y.cls ≠ "java/lang/invoke/VarHandle" ∧ (parseMethodDescriptor y.desc).map (fun d => d.parameters.length) = some n) (hR : rm.frames + 1 ≤ R.frames ∧ 8 + (maxL + 11) + rm.locals ≤ R.locals) :
    CallB R s args own index y bytes maxL ret (Cond.code y bytes maxL ret :: xtb) rm mc ms n :=
  callB_of n hts (fun w hw => (List.mem_cons.mp hw).elim (fun e => by subst e; exact ⟨List.mem_cons_of_mem _ hc, xtb_good _ hc⟩) (fun h => ⟨List.mem_cons_of_mem _ h, xtb_good _ h⟩)) rfl hrc hrs (hts _ (List.mem_cons_of_mem _ hini)) (hts _ (List.mem_cons_of_mem _ hl)) hd hR
theorem xcwV (n : Nat) (hts : ∀ w ∈ c0 :: xtb, w.before args s = true) (hc : Cond.code y bytes maxL ret ∈ xtb) (hini : Cond.initialized y.cls ∈ xtb) (hl : Cond.methodLink own index y ∈ xtb) (hi : Cond.instanceMethod y ∈ xtb) (hs : Cond.selects y.cls y y ∈ xtb) (hrc : rm.cells = mc) (hrs : rm.slots = ms)
    (hd : y.cls ≠ "java/lang/invoke/MethodHandle" ∧ y.cls ≠ "java/lang/invoke/VarHandle" ∧ (parseMethodDescriptor y.desc).map (fun d => d.parameters.length) = some n) (hR : rm.frames + 1 ≤ R.frames ∧ 8 + (maxL + 11) + rm.locals ≤ R.locals) :
    CallW R s args own y.cls index y bytes maxL ret (Cond.code y bytes maxL ret :: xtb) rm mc ms n :=
  ⟨xcw n hts hc hini hl hrc hrs hd hR, hts _ (List.mem_cons_of_mem _ hi), hts _ (List.mem_cons_of_mem _ hs)⟩
theorem xcwS (n : Nat) (hts : ∀ w ∈ c0 :: xtb, w.before args s = true) (hc : Cond.code y bytes maxL ret ∈ xtb) (hini : Cond.initialized y.cls ∈ xtb) (hl : Cond.methodLink own index y ∈ xtb) (hst : Cond.static y ∈ xtb) (hrc : rm.cells = mc) (hrs : rm.slots = ms)
    (hd : y.cls ≠ "java/lang/invoke/MethodHandle" ∧ y.cls ≠ "java/lang/invoke/VarHandle" ∧ (parseMethodDescriptor y.desc).map (fun d => d.parameters.length) = some n) (hR : rm.frames + 1 ≤ R.frames ∧ 8 + (maxL + 11) + rm.locals ≤ R.locals) :
    CallB R s args own index y bytes maxL ret (Cond.code y bytes maxL ret :: xtb) rm mc ms n ∧ (Cond.static y).before args s = true :=
  ⟨xcw n hts hc hini hl hrc hrs hd hR, hts _ (List.mem_cons_of_mem _ hst)⟩
end XCW
/-! my own rows over the kit's: addresses by a numbered list, read-only and writing calls, arrays by Nat indices -/
/-- the addresses of a group of cells: ad 0, ad 1, ..; they are apart -/
def xI (ad : Nat → Nat) (n : Nat) : Prop := ∀ i j : Nat, i < n → j < n → ad i = ad j → i = j
/-- what may change: the cells with these numbers -/
def xA (ad : Nat → Nat) (is : List Nat) : Nat → Prop := fun q => ∃ i : Nat, i ∈ is ∧ q = ad i
/-- nothing may change -/
def xN : Nat → Prop := fun _ => False
def xB {S : Type} (D : va_G) (cl : List vw_C) (w : S → va_W) (u : S) (t : State) : Prop := va_P D cl (w u) t.heap
theorem xPn {D : va_G} {cl : List vw_C} {H : Heap} : va_P D cl [] H := fun k q h => by cases h
theorem xD {ad : Nat → Nat} {n : Nat} (h : xI ad n) {ws : va_W} {is : List Nat} (js : List Nat) (hm : ws.map (fun q => q.1) = js.map ad) (hn : va_nd js = true) (hi : js.all (fun j => decide (j < n) && decide (j ∈ is)) = true) : va_D (xA ad is) ws := by
  have hat : ∀ (k : Nat) (q : Nat × va_E), ws[k]? = some q → ∃ j, js[k]? = some j ∧ q.1 = ad j := by
    intro k q hk
    have h1 : (ws.map (fun q => q.1))[k]? = some q.1 := by rw [List.getElem?_map, hk]; rfl
    rw [hm, List.getElem?_map] at h1
    cases hj : js[k]? with
    | none => rw [hj] at h1; cases h1
    | some j => rw [hj] at h1; exact ⟨j, rfl, (Option.some.inj h1).symm⟩
  have hin : ∀ j, j ∈ js → j < n ∧ j ∈ is := by
    intro j hj
    have h1 := List.all_eq_true.mp hi j hj
    simp only [Bool.and_eq_true, decide_eq_true_eq] at h1
    exact h1
  refine ⟨fun i j p q hp hq he => ?_, fun k q hk => ?_⟩
  · obtain ⟨a, ha, ea⟩ := hat i p hp
    obtain ⟨b, hb, eb⟩ := hat j q hq
    have hab : a = b := h a b (hin a (List.mem_of_getElem? ha)).1 (hin b (List.mem_of_getElem? hb)).1 (by rw [← ea, ← eb]; exact he)
    subst hab
    exact va_nd_inj js hn i j a ha hb
  · obtain ⟨a, ha, ea⟩ := hat k q hk
    exact ⟨a, (hin a (List.mem_of_getElem? ha)).2, ea⟩
/-- cells with other numbers don't change -/
theorem xnA {ad : Nat → Nat} {n : Nat} (h : xI ad n) {ws : va_W} {is : List Nat} (js : List Nat) (hm : ws.map (fun q => q.1) = js.map ad) (hi : js.all (fun j => decide (j < n) && is.all (fun i => decide (i < n) && decide (i ≠ j))) = true) : ∀ (k : Nat) (q : Nat × va_E), ws[k]? = some q → ¬ xA ad is q.1 := by
  intro k q hk hA
  have h1 : (ws.map (fun q => q.1))[k]? = some q.1 := by rw [List.getElem?_map, hk]; rfl
  rw [hm, List.getElem?_map] at h1
  cases hj : js[k]? with
  | none => rw [hj] at h1; cases h1
  | some j =>
    rw [hj] at h1
    have e1 : q.1 = ad j := (Option.some.inj h1).symm
    have h2 := List.all_eq_true.mp hi j (List.mem_of_getElem? hj)
    simp only [Bool.and_eq_true, decide_eq_true_eq] at h2
    obtain ⟨i, hin, e2⟩ := hA
    have h3 := List.all_eq_true.mp h2.2 i hin
    simp only [Bool.and_eq_true, decide_eq_true_eq] at h3
    exact h3.2 (h i j h3.1 h2.1 (by rw [← e2, ← e1]))
theorem xnN {ws : va_W} : ∀ (k : Nat) (q : Nat × va_E), ws[k]? = some q → ¬ xN q.1 := fun _ _ _ h => h
/-- what was there at the start and may not change is there now -/
theorem xP0 {D : va_G} {cl : List vw_C} {ws : va_W} {A : Nat → Prop} {H0 H : Heap} {locs : List Loc} (hP : va_P D cl ws H0) (hn : ∀ (k : Nat) (q : Nat × va_E), ws[k]? = some q → ¬ A q.1) (hS : va_S A H0 H locs) : va_P D cl ws H :=
  hP.kept fun k q hk => hS.2.1 q.1 (hP k q hk).lt (hn k q hk)
theorem xkeep {D : va_G} {cl : List vw_C} {ws : va_W} {H H1 : Heap} (hP : va_P D cl ws H) (hk : ∀ q : Nat, q < H.size → H1[q]? = H[q]?) : va_P D cl ws H1 :=
  hP.kept fun k q h => hk q.1 (hP k q h).lt
theorem xkeepA {D : va_G} {cl : List vw_C} {ws wr : va_W} {A1 : Nat → Prop} {H H1 : Heap} (hP : va_P D cl ws H) (hk : ∀ q : Nat, q < H.size → ¬ A1 q → H1[q]? = H[q]?) (is : List Nat) (hs : is.filterMap (fun i => ws[i]?) = wr) (hn : ∀ (k : Nat) (q : Nat × va_E), wr[k]? = some q → ¬ A1 q.1) : va_P D cl wr H1 := by
  have h1 := hP.sub is hs
  exact h1.kept fun k q h => hk q.1 (h1 k q h).lt (hn k q h)
theorem xAsub {ad : Nat → Nat} {is js : List Nat} (h : is.all (fun i => decide (i ∈ js)) = true) : ∀ q, xA ad is q → xA ad js q := by
  intro q ⟨i, hi, e⟩
  exact ⟨i, by simpa using List.all_eq_true.mp h i hi, e⟩
section XR
variable {p : Program} {l : Launch} {e : Env} {R : Room} {s : State} {m : MethodId} {args : Array Value} {below : List Frame} {meth : Method} {c : Code} {H : Heap} {locs : List Loc} {cells slots : Nat} {Q : State → Prop}
variable {cc : ByteArray} {pc : Nat} {ls : Array Slot} {rest st0 : List Value} {D : va_G} {cl : List vw_C} {A A0 A1 : Nat → Prop} {a : Nat} {tys : List (ClassId × FieldType)} {ws : va_W} {H0 : Heap} {av : Array Value}
theorem xblind {av : List Value} {D : va_G} {cl : List vw_C} {ws : va_W} {tys : List (ClassId × FieldType)} : FrameBlind (va_Pc av (fun U => va_P D cl ws U.heap ∧ va_K D cl tys U)) := by
  intro a U g mk q
  obtain ⟨q0, qP, qK⟩ := q
  exact ⟨q0, qP, va_K.moved (u := U) (U := U.calling g mk a) (Vm.Alike.refl U.vm) qK⟩
theorem xpreS {As : List Value} (hP : va_P D cl ws H) (hK : va_K D cl tys s) : PreS s H (va_Pc As (fun U => va_P D cl ws U.heap ∧ va_K D cl tys U)) As :=
  ⟨xblind, fun U hU hW => ⟨rfl, by rw [hU]; exact hP, va_K.moved hW.alike hK⟩⟩
theorem xpreV {C : String} {b : Addr} {As : List Value} (hb : ∃ cell : Cell, H[b]? = some cell ∧ cell.vm.isStatics = false ∧ s.vm.findClass C = some cell.cls) (hP : va_P D cl ws H) (hK : va_K D cl tys s) : PreV s H C b (va_Pc (.ref b :: As) (fun U => va_P D cl ws U.heap ∧ va_K D cl tys U)) As :=
  ⟨xblind, hb, fun U hU hW => ⟨rfl, by rw [hU]; exact hP, va_K.moved hW.alike hK⟩⟩
/-- a call that changes nothing and answers v -/
theorem xro_i {v : Int32} (hr : va_Run p l e R s m args below meth c H locs cells slots 0 0 (F0 m pc ls st0) rest (va_Qi (fun r (_ : Unit) => v = r) (fun _ _ => True) xN av) xN) (hS : va_S A0 H0 H locs)
    (kk : ∀ (H1 : Heap) (locs1 : List Loc), (∀ q : Nat, q < H.size → H1[q]? = H[q]?) → va_S A0 H0 H1 locs1 → W p l e R s m args below meth c H1 locs1 cells slots Q (F0 m (pc + 3) ls (.int v :: rest))) : W p l e R s m args below meth c H locs cells slots Q (F0 m pc ls st0) :=
  va_calli hr hS (fun q _ h => h.elim) (fun q h => h.elim) (fun r u t H1 locs1 ht hvm hp hB hz hk hS1 => by
    have hp : v = r := hp
    subst hp
    exact kk H1 locs1 (fun q hq => hk q hq (fun h => h)) hS1)
theorem xro_l {v : Int64} (hr : va_Run p l e R s m args below meth c H locs cells slots 0 0 (F0 m pc ls st0) rest (va_Ql (fun r (_ : Unit) => v = r) (fun _ _ => True) xN av) xN) (hS : va_S A0 H0 H locs)
    (kk : ∀ (H1 : Heap) (locs1 : List Loc), (∀ q : Nat, q < H.size → H1[q]? = H[q]?) → va_S A0 H0 H1 locs1 → W p l e R s m args below meth c H1 locs1 cells slots Q (F0 m (pc + 3) ls (.long v :: rest))) : W p l e R s m args below meth c H locs cells slots Q (F0 m pc ls st0) :=
  va_calll hr hS (fun q _ h => h.elim) (fun q h => h.elim) (fun r u t H1 locs1 ht hvm hp hB hz hk hS1 => by
    have hp : v = r := hp
    subst hp
    exact kk H1 locs1 (fun q hq => hk q hq (fun h => h)) hS1)
/-- a call that changes the cells of A1: what comes back is said by post; its world by w -/
theorem xrw_i {S : Type} {post : Int32 → S → Prop} {w : S → va_W} (hr : va_Run p l e R s m args below meth c H locs cells slots 0 0 (F0 m pc ls st0) rest (va_Qi post (xB D cl w) A1 av) A1) (hS : va_S A0 H0 H locs) (hsub : ∀ q, A1 q → A0 q)
    (kk : ∀ (r : Int32) (u : S) (H1 : Heap) (locs1 : List Loc), post r u → va_P D cl (w u) H1 → (∀ q : Nat, q < H.size → ¬ A1 q → H1[q]? = H[q]?) → va_S A0 H0 H1 locs1 → W p l e R s m args below meth c H1 locs1 cells slots Q (F0 m (pc + 3) ls (.int r :: rest))) : W p l e R s m args below meth c H locs cells slots Q (F0 m pc ls st0) :=
  va_calli hr hS (fun q _ h => hsub q h) hsub (fun r u t H1 locs1 ht hvm hp hB hz hk hS1 => kk r u H1 locs1 hp (by have h1 : va_P D cl (w u) t.heap := hB; rw [ht] at h1; exact h1) hk hS1)
theorem xrw_l {S : Type} {post : Int64 → S → Prop} {w : S → va_W} (hr : va_Run p l e R s m args below meth c H locs cells slots 0 0 (F0 m pc ls st0) rest (va_Ql post (xB D cl w) A1 av) A1) (hS : va_S A0 H0 H locs) (hsub : ∀ q, A1 q → A0 q)
    (kk : ∀ (r : Int64) (u : S) (H1 : Heap) (locs1 : List Loc), post r u → va_P D cl (w u) H1 → (∀ q : Nat, q < H.size → ¬ A1 q → H1[q]? = H[q]?) → va_S A0 H0 H1 locs1 → W p l e R s m args below meth c H1 locs1 cells slots Q (F0 m (pc + 3) ls (.long r :: rest))) : W p l e R s m args below meth c H locs cells slots Q (F0 m pc ls st0) :=
  va_calll hr hS (fun q _ h => hsub q h) hsub (fun r u t H1 locs1 ht hvm hp hB hz hk hS1 => kk r u H1 locs1 hp (by have h1 : va_P D cl (w u) t.heap := hB; rw [ht] at h1; exact h1) hk hS1)
theorem xrw_v {S : Type} {post : S → Prop} {w : S → va_W} (hr : va_Run p l e R s m args below meth c H locs cells slots 0 0 (F0 m pc ls st0) rest (va_Qv post (xB D cl w) A1 av) A1) (hS : va_S A0 H0 H locs) (hsub : ∀ q, A1 q → A0 q)
    (kk : ∀ (u : S) (H1 : Heap) (locs1 : List Loc), post u → va_P D cl (w u) H1 → (∀ q : Nat, q < H.size → ¬ A1 q → H1[q]? = H[q]?) → va_S A0 H0 H1 locs1 → W p l e R s m args below meth c H1 locs1 cells slots Q (F0 m (pc + 3) ls rest)) : W p l e R s m args below meth c H locs cells slots Q (F0 m pc ls st0) :=
  va_callv hr hS (fun q _ h => hsub q h) hsub (fun u t H1 locs1 ht hvm hp hB hz hk hS1 => kk u H1 locs1 hp (by have h1 : va_P D cl (w u) t.heap := hB; rw [ht] at h1; exact h1) hk hS1)
theorem xr_iald (hexec : p.tables.exec = Jvm.exec) (hb : c.code = cc) (hK : va_K D cl tys s) (hP : va_P D cl ws H) (q0 t0 : Nat) {cA : ClassId} {n : Nat} {f : Nat → Int32} (ha : ws[q0]? = some (a, .inl (cA, n, .inl f))) (ht : tys[t0]? = some (cA, .int)) (j : Nat) (hj : j < n) (hn : n < 2 ^ 31) (hdg : decode cc pc = .ok (.iaload, 1))
    (kk : W p l e R s m args below meth c H locs cells slots Q (F0 m (pc + 1) ls (.int (f j) :: rest))) : W p l e R s m args below meth c H locs cells slots Q (F0 m pc ls (.int (nI j) :: .ref a :: rest)) := by
  refine va_iald hexec hb hK hP q0 t0 ha ht (vp_in_nI hj hn) hdg ?_
  rw [nI_clamp (by omega)]
  exact kk
theorem xr_lald (hexec : p.tables.exec = Jvm.exec) (hb : c.code = cc) (hK : va_K D cl tys s) (hP : va_P D cl ws H) (q0 t0 : Nat) {cA : ClassId} {n : Nat} {f : Nat → Int64} (ha : ws[q0]? = some (a, .inl (cA, n, .inr (.inl f)))) (ht : tys[t0]? = some (cA, .long)) (j : Nat) (hj : j < n) (hn : n < 2 ^ 31) (hdg : decode cc pc = .ok (.laload, 1))
    (kk : W p l e R s m args below meth c H locs cells slots Q (F0 m (pc + 1) ls (.long (f j) :: rest))) : W p l e R s m args below meth c H locs cells slots Q (F0 m pc ls (.int (nI j) :: .ref a :: rest)) := by
  refine va_lald hexec hb hK hP q0 t0 ha ht (vp_in_nI hj hn) hdg ?_
  rw [nI_clamp (by omega)]
  exact kk
theorem xr_iast (hexec : p.tables.exec = Jvm.exec) (hb : c.code = cc) (hK : va_K D cl tys s) (hP : va_P D cl ws H) (hD : va_D A ws) (hS : va_S A H0 H locs) (q0 t0 : Nat) {cA : ClassId} {n : Nat} {f : Nat → Int32} (ha : ws[q0]? = some (a, .inl (cA, n, .inl f))) (ht : tys[t0]? = some (cA, .int)) (j : Nat) {x : Int32} (hj : j < n) (hn : n < 2 ^ 31) (hdg : decode cc pc = .ok (.iastore, 1))
    (kk : ∀ (H1 : Heap) (locs1 : List Loc), va_P D cl (ws.set q0 (a, .inl (cA, n, .inl (upd f j x)))) H1 → va_S A H0 H1 locs1 → W p l e R s m args below meth c H1 locs1 cells slots Q (F0 m (pc + 1) ls rest)) : W p l e R s m args below meth c H locs cells slots Q (F0 m pc ls (.int x :: .int (nI j) :: .ref a :: rest)) := by
  refine va_iast hexec hb hK hP hD hS q0 t0 ha ht (vp_in_nI hj hn) hdg (fun H1 locs1 hP1 _ hS1 => ?_)
  rw [nI_clamp (by omega)] at hP1
  exact kk H1 locs1 hP1 hS1
theorem xr_last (hexec : p.tables.exec = Jvm.exec) (hb : c.code = cc) (hK : va_K D cl tys s) (hP : va_P D cl ws H) (hD : va_D A ws) (hS : va_S A H0 H locs) (q0 t0 : Nat) {cA : ClassId} {n : Nat} {f : Nat → Int64} (ha : ws[q0]? = some (a, .inl (cA, n, .inr (.inl f)))) (ht : tys[t0]? = some (cA, .long)) (j : Nat) {x : Int64} (hj : j < n) (hn : n < 2 ^ 31) (hdg : decode cc pc = .ok (.lastore, 1))
    (kk : ∀ (H1 : Heap) (locs1 : List Loc), va_P D cl (ws.set q0 (a, .inl (cA, n, .inr (.inl (vp_updL f j x))))) H1 → va_S A H0 H1 locs1 → W p l e R s m args below meth c H1 locs1 cells slots Q (F0 m (pc + 1) ls rest)) : W p l e R s m args below meth c H locs cells slots Q (F0 m pc ls (.long x :: .int (nI j) :: .ref a :: rest)) := by
  refine va_last hexec hb hK hP hD hS q0 t0 ha ht (vp_in_nI hj hn) hdg (fun H1 locs1 hP1 _ hS1 => ?_)
  rw [nI_clamp (by omega)] at hP1
  exact kk H1 locs1 hP1 hS1
/-- one more, one less, by numbers -/
theorem xr_add1 (hexec : p.tables.exec = Jvm.exec) (hb : c.code = cc) {t : Nat} (hdg : decode cc pc = .ok (.iadd, 1)) (k : W p l e R s m args below meth c H locs cells slots Q (F0 m (pc + 1) ls (.int (nI (t + 1)) :: rest))) : W p l e R s m args below meth c H locs cells slots Q (F0 m pc ls (.int 1 :: .int (nI t) :: rest)) := by
  refine lv_iadd hexec hb hdg ?_
  rw [nI_1]
  exact k
theorem xr_sub1 (hexec : p.tables.exec = Jvm.exec) (hb : c.code = cc) {t : Nat} (hdg : decode cc pc = .ok (.isub, 1)) (k : W p l e R s m args below meth c H locs cells slots Q (F0 m (pc + 1) ls (.int (nI t) :: rest))) : W p l e R s m args below meth c H locs cells slots Q (F0 m pc ls (.int 1 :: .int (nI (t + 1)) :: rest)) := by
  refine lv_isub hexec hb hdg ?_
  rw [nI_pred]
  exact k
end XR
theorem xinc1 (x : Int32) : x + Int32.ofInt 1 = x + 1 := by rw [show Int32.ofInt 1 = 1 by decide]
theorem xinc (i : Nat) : nI i + Int32.ofInt 1 = nI (i + 1) := by rw [xinc1, nI_1]
theorem xdec1 (x : Int32) : x + Int32.ofInt (-1) = x - 1 := by rw [show Int32.ofInt (-1) = -1 by decide, Int32.sub_eq_add_neg]
/-- an array of numbers -/
def xnI (f : Nat → Nat) : Nat → Int32 := fun j => nI (f j)
theorem xnI_up (f : Nat → Nat) (j r : Nat) : xnI (va_up f j r) = upd (xnI f) j (nI r) := by
  funext k
  by_cases h : k = j
  · subst h; simp [xnI, va_up, upd]
  · simp [xnI, va_up, upd, h]
theorem xlt {t : Nat} (k : Nat) (h : nI t < nI k) (ht : t < 2 ^ 31) (hk : k < 2 ^ 31) : t < k := (nI_ltI ht hk).mp h
theorem xnle {t : Nat} (k : Nat) (h : ¬ nI k ≤ nI t) (ht : t < 2 ^ 31) (hk : k < 2 ^ 31) : t < k := Nat.lt_of_not_le fun q => h (nI_le q ht)
theorem xin {j : Int32} {n k : Nat} (h1 : ¬ j < 0) (h2 : ¬ nI k ≤ j) (hk : k ≤ n) (hn : n < 2 ^ 31) : vp_in j n := by
  obtain ⟨i, hi, rfl⟩ := nI_of h1
  exact vp_in_nI (Nat.lt_of_lt_of_le (xnle k h2 hi (by omega)) hk) hn
theorem xsucc {z : Int32} {n : Nat} (h : z + 1 = nI (n + 1)) : z = nI n := by
  have h1 : nI n + 1 = nI (n + 1) := nI_1 n
  have h2 : z + 1 - 1 = nI n + 1 - 1 := by rw [h, h1]
  simpa using h2
theorem xneg {z : Int32} (h : z + 1 = nI 0) : z < 0 := by
  have h2 : z + 1 - 1 = nI 0 - 1 := by rw [h]
  have h3 : z = nI 0 - 1 := by simpa using h2
  rw [h3]; decide
theorem xpos {t : Nat} (h : ¬ nI t ≤ 0) : 0 < t := by
  rcases Nat.eq_zero_or_pos t with h1 | h1
  · exact absurd (by rw [h1]; decide) h
  · exact h1
section XR2
variable {p : Program} {l : Launch} {e : Env} {R : Room} {s : State} {m : MethodId} {args : Array Value} {below : List Frame} {meth : Method} {c : Code} {H : Heap} {locs : List Loc} {cells slots : Nat} {Q : State → Prop}
variable {cc : ByteArray} {pc : Nat} {ls : Array Slot} {rest : List Value}
theorem xr_subp {t : Nat} (ht : 0 < t) (hexec : p.tables.exec = Jvm.exec) (hb : c.code = cc) (hdg : decode cc pc = .ok (.isub, 1)) (k : W p l e R s m args below meth c H locs cells slots Q (F0 m (pc + 1) ls (.int (nI (t - 1)) :: rest))) : W p l e R s m args below meth c H locs cells slots Q (F0 m pc ls (.int 1 :: .int (nI t) :: rest)) := by
  refine lv_isub hexec hb hdg ?_
  rw [show nI t - 1 = nI (t - 1) by rw [show t = (t - 1) + 1 by omega, nI_pred]; rfl]
  exact k
end XR2
theorem xmaxpred {nc : Nat} (h : nc ≤ 40) : (if (0 : Int32) < nI nc - 1 then nI nc - 1 else 0) = nI (nc - 1) := by
  have h1 : ∀ n, n < 41 → (if (0 : Int32) < nI n - 1 then nI n - 1 else 0) = nI (n - 1) := by decide +kernel
  exact h1 nc (by omega)
theorem xSmono {A : Nat → Prop} {H0 H : Heap} {locs : List Loc} (h : va_S xN H0 H locs) : va_S A H0 H locs :=
  ⟨h.1, fun q h1 _ => h.2.1 q h1 (fun z => z), fun q hq => (h.2.2 q hq).elim⟩
section XRZ
variable {p : Program} {l : Launch} {e : Env} {R : Room} {s : State} {m : MethodId} {args : Array Value} {below : List Frame} {meth : Method} {c : Code} {H : Heap} {locs : List Loc} {cells slots : Nat} {Q : State → Prop}
variable {cc : ByteArray} {pc : Nat} {ls : Array Slot} {rest : List Value} {D : va_G} {cl : List vw_C} {A : Nat → Prop} {a : Nat} {tys : List (ClassId × FieldType)} {ws : va_W} {H0 : Heap}
theorem xr_zald (hexec : p.tables.exec = Jvm.exec) (hb : c.code = cc) (hK : va_K D cl tys s) (hP : va_P D cl ws H) (q0 t0 : Nat) {cA : ClassId} {n : Nat} {f : Nat → Int32} (ha : ws[q0]? = some (a, .inl (cA, n, .inl f))) (ht : tys[t0]? = some (cA, .boolean)) (j : Nat) (hj : j < n) (hn : n < 2 ^ 31) (hdg : decode cc pc = .ok (.baload, 1))
    (kk : W p l e R s m args below meth c H locs cells slots Q (F0 m (pc + 1) ls (.int (f j) :: rest))) : W p l e R s m args below meth c H locs cells slots Q (F0 m pc ls (.int (nI j) :: .ref a :: rest)) := by
  refine va_zald hexec hb hK hP q0 t0 ha ht (vp_in_nI hj hn) hdg ?_
  rw [nI_clamp (by omega)]
  exact kk
theorem xr_zast (hexec : p.tables.exec = Jvm.exec) (hb : c.code = cc) (hK : va_K D cl tys s) (hP : va_P D cl ws H) (hD : va_D A ws) (hS : va_S A H0 H locs) (q0 t0 : Nat) {cA : ClassId} {n : Nat} {f : Nat → Int32} (ha : ws[q0]? = some (a, .inl (cA, n, .inl f))) (ht : tys[t0]? = some (cA, .boolean)) (j : Nat) {x : Int32} (hj : j < n) (hn : n < 2 ^ 31) (hdg : decode cc pc = .ok (.bastore, 1))
    (kk : ∀ (H1 : Heap) (locs1 : List Loc), va_P D cl (ws.set q0 (a, .inl (cA, n, .inl (upd f j (vp_nar .boolean x))))) H1 → va_S A H0 H1 locs1 → W p l e R s m args below meth c H1 locs1 cells slots Q (F0 m (pc + 1) ls rest)) : W p l e R s m args below meth c H locs cells slots Q (F0 m pc ls (.int x :: .int (nI j) :: .ref a :: rest)) := by
  refine va_zast hexec hb hK hP hD hS q0 t0 ha ht (vp_in_nI hj hn) hdg (fun H1 locs1 hP1 _ hS1 => ?_)
  rw [nI_clamp (by omega)] at hP1
  exact kk H1 locs1 hP1 hS1
end XRZ
theorem xBi {S : Type} {D : va_G} {cl : List vw_C} {w : S → va_W} {u : S} {t : State} {H : Heap} (ht : t.heap = H) (hP : va_P D cl (w u) H) : xB D cl w u t := by
  show va_P D cl (w u) t.heap
  rw [ht]
  exact hP
