/-! my own rows: what the law's own methods need -/
theorem xI.le {ad : Nat → Nat} {n k : Nat} (h : xI ad n) (hk : k ≤ n) : xI ad k := fun i j hi hj e => h i j (by omega) (by omega) e
theorem xI.sh {ad : Nat → Nat} {n k : Nat} (d : Nat) (h : xI ad n) (hk : k + d ≤ n) : xI (fun i => ad (i + d)) k := fun i j hi hj e => by
  have := h (i + d) (j + d) (by omega) (by omega) e
  omega
theorem xA_sh {ad : Nat → Nat} {d : Nat} {is : List Nat} {q : Nat} (h : xA (fun i => ad (i + d)) is q) : xA ad (is.map (fun i => i + d)) q := by
  obtain ⟨i, hi, e⟩ := h
  exact ⟨i + d, List.mem_map.mpr ⟨i, hi, rfl⟩, e⟩
theorem xst_eval {U : State} {C n d : String} {c i a : Nat} {k : Class} {f : Field} {cell : Cell} (hi : U.fieldFound? C n d = some (c, k, i, f)) (hst : f.isStatic = true) (ha : k.statics = some a) (hcell : U.heap[a]? = some cell) (hs : cell.vm.isStatics = true) : (Term.static C n d).eval #[] U none [] U = cell.slots[f.slot]? := by
  simp [Term.eval, State.fieldNamed?, hi, hst, ha, hcell, hs]
theorem xlays_keep {s U : State} {C n d : String} (h : (Cond.laysStatic C n d).before #[] s = true) (hW : s.WarmedH U.vm) (hk : ∀ q : Nat, q < s.heap.size → U.heap[q]? = s.heap[q]?) : (Cond.laysStatic C n d).before #[] U = true := by
  obtain ⟨c, k, i, f, a, cell, hc, hi, hst, ha, hcell, hs, hcls, hlt, hty⟩ := Cond.laysStatic_spec h
  obtain ⟨k', hi', hek⟩ := State.fieldFound?_setVm hW.alike hi
  exact Cond.laysStatic_of (s := U) (by rw [hW.alike.findClass]; exact hc) hi' hst (by rw [hek]; exact ha) (by rw [hk a (Array.getElem?_eq_some_iff.mp hcell).1]; exact hcell) hs hcls hlt (by rw [hek]; exact hty)
theorem xref_keep {s U : State} {C n d : String} (hl : (Cond.laysStatic C n d).before #[] s = true) (h : (Cond.isRef (.static C n d)).before #[] s = true) (hW : s.WarmedH U.vm) (hk : ∀ q : Nat, q < s.heap.size → U.heap[q]? = s.heap[q]?) : (Cond.isRef (.static C n d)).before #[] U = true := by
  obtain ⟨c, k, i, f, a, cell, hc, hi, hst, ha, hcell, hs, hcls, hlt, hty⟩ := Cond.laysStatic_spec hl
  obtain ⟨k', hi', hek⟩ := State.fieldFound?_setVm hW.alike hi
  have e1 := xst_eval hi hst ha hcell hs
  have e2 := xst_eval (U := U) hi' hst (by rw [hek]; exact ha) (by rw [hk a (Array.getElem?_eq_some_iff.mp hcell).1]; exact hcell) hs
  simp only [Cond.before, Cond.holds, Cond.value, e1] at h
  simp only [Cond.before, Cond.holds, Cond.value, e2]
  exact h
theorem xEx.keep {s U : State} (h : xEx s) (hW : s.WarmedH U.vm) (hk : ∀ q : Nat, q < s.heap.size → U.heap[q]? = s.heap[q]?) : xEx U := by
  unfold xEx xex at h ⊢
  simp only [List.forall_mem_cons] at h ⊢
  obtain ⟨h1, h2, h3, h4, h5, h6, h7, h8, h9, -⟩ := h
  exact ⟨va_Nw.warmC hW h1, va_Nw.warmC hW h2, va_Nw.warmD hW h3, va_Nw.warmD hW h4, va_Nw.warmD hW h5, xlays_keep h6 hW hk, xlays_keep h7 hW hk, xref_keep h6 h8 hW hk, xref_keep h7 h9 hW hk, fun a ha => absurd ha List.not_mem_nil⟩
/-- an IllegalStateException is no IllegalArgumentException -/
def xNo (s : State) : Prop := ∀ c1 c2 : ClassId, s.vm.findClass "java/lang/IllegalStateException" = some c1 → s.vm.findClass "java/lang/IllegalArgumentException" = some c2 → s.vm.assignable c1 c2 = false
theorem xNo.keep {s U : State} (h : xNo s) (hW : s.vm.Alike U.vm) : xNo U := fun c1 c2 h1 h2 => by
  rw [hW.findClass] at h1 h2
  rw [hW.assignable]
  exact h c1 c2 h1 h2
theorem xNo.of {s : State} {args : Array Value} (h : (Cond.not (Cond.castable "java/lang/IllegalStateException" "java/lang/IllegalArgumentException")).before args s = true) : xNo s := fun c1 c2 h1 h2 => by
  simp only [Cond.before, Cond.holds, Cond.value, h1, h2] at h
  simpa using h
theorem xblind2 {av : List Value} {D : va_G} {cl : List vw_C} {ws : va_W} {tys : List (ClassId × FieldType)} : FrameBlind (va_Pc av (fun U => va_P D cl ws U.heap ∧ va_K D cl tys U ∧ xEx U ∧ xNo U)) := by
  intro a U g mk q
  obtain ⟨q0, qP, qK, qE, qN⟩ := q
  exact ⟨q0, qP, va_K.moved (u := U) (U := U.calling g mk a) (Vm.Alike.refl U.vm) qK, qE.keep (State.WarmedH.refl U) (fun _ _ => rfl), qN.keep (Vm.Alike.refl U.vm)⟩
theorem xblind1 {av : List Value} {D : va_G} {cl : List vw_C} {ws : va_W} {tys : List (ClassId × FieldType)} : FrameBlind (va_Pc av (fun U => va_P D cl ws U.heap ∧ va_K D cl tys U ∧ xEx U)) := by
  intro a U g mk q
  obtain ⟨q0, qP, qK, qE⟩ := q
  exact ⟨q0, qP, va_K.moved (u := U) (U := U.calling g mk a) (Vm.Alike.refl U.vm) qK, qE.keep (State.WarmedH.refl U) (fun _ _ => rfl)⟩
section XPR
variable {s : State} {H : Heap} {D : va_G} {cl : List vw_C} {tys : List (ClassId × FieldType)} {ws : va_W}
theorem xpreS2 {As : List Value} (hP : va_P D cl ws H) (hK : va_K D cl tys s) (hE : xEx s) (hN : xNo s) (hk : ∀ q : Nat, q < s.heap.size → H[q]? = s.heap[q]?) : PreS s H (va_Pc As (fun U => va_P D cl ws U.heap ∧ va_K D cl tys U ∧ xEx U ∧ xNo U)) As :=
  ⟨xblind2, fun U hU hW => ⟨rfl, by rw [hU]; exact hP, va_K.moved hW.alike hK, hE.keep hW (by rw [hU]; exact hk), hN.keep hW.alike⟩⟩
theorem xpreV1 {C : String} {b : Addr} {As : List Value} (hb : ∃ cell : Cell, H[b]? = some cell ∧ cell.vm.isStatics = false ∧ s.vm.findClass C = some cell.cls) (hP : va_P D cl ws H) (hK : va_K D cl tys s) (hE : xEx s) (hk : ∀ q : Nat, q < s.heap.size → H[q]? = s.heap[q]?) : PreV s H C b (va_Pc (.ref b :: As) (fun U => va_P D cl ws U.heap ∧ va_K D cl tys U ∧ xEx U)) As :=
  ⟨xblind1, hb, fun U hU hW => ⟨rfl, by rw [hU]; exact hP, va_K.moved hW.alike hK, hE.keep hW (by rw [hU]; exact hk)⟩⟩
end XPR
section XSW
variable {p : Program} {l : Launch} {e : Env} {R : Room} {s : State} {m : MethodId} {args : Array Value} {below : List Frame} {meth : Method} {c : Code} {H : Heap} {locs : List Loc} {cells slots : Nat} {Q : State → Prop}
theorem xcallSW {T : State} (X : Stand p l e R s m args below meth c T locs cells slots) (hexec : p.tables.exec = Jvm.exec) {own : String} {index : Nat} {y : MethodName} {bytes : ByteArray} {maxL : Nat} {ret : Option FieldType} {hh : List (Nat × Nat × Nat × Nat)}
    (hown : s.vm.findClass own = some m.cls) (hlink : (Cond.methodLink own index y).before args s = true) (hstat : (Cond.static y).before args s = true) (hinit : (Cond.initialized y.cls).before args s = true)
    (hcode : (Cond.codeWith y bytes maxL ret hh).before args s = true) (hy : y.cls ≠ "java/lang/invoke/MethodHandle" ∧ y.cls ≠ "java/lang/invoke/VarHandle")
    {W : Nat} {Pre : Pt → Array Value → Prop} {Post : Pt → Array Value → Option Value → Pt → Prop} (hK : Back l R p e below s args y 3 W Pre Post)
    {g : JFrame} (hg : g.method = m) (hsize : g.locals.size = c.maxLocals) {argsL rest : List Value} (hlen : ∀ sig, parseMethodDescriptor y.desc = some sig → argsL.length = sig.parameters.length)
    (hstack : g.stack = argsL.reverse ++ rest) (hW : 2 * g.monitorRoom + (rest.map fun v => v.category).sum ≤ W) (hdg : decode c.code g.pc = .ok (.invokestatic index, 3))
    (hpre : ∀ vm₁, s.WarmedH vm₁ → Pre ⟨T.setVm vm₁, locs, cells, slots⟩ argsL.toArray) :
    ∃ (v : Option Value) (vm₁ : Vm) (B : Pt), s.WarmedH vm₁ ∧ Stand p l e R s m args below meth c B.U B.locs B.cells B.slots ∧ Post ⟨T.setVm vm₁, locs, cells, slots⟩ argsL.toArray v B ∧
      ∀ target, Steps p.tables e below (B.U.setTop { g with pc := g.pc + 3, stack := v.toList ++ rest }) target → Steps p.tables e below (T.setTop g) target := by
  obtain ⟨mk, methM, cM, hnamed, hmethM, -, -, -, -, -, -, hsigM⟩ := Cond.codeWith_spec hcode
  have hstatic : methM.isStatic = true := Cond.static_spec hnamed hmethM hstat
  obtain ⟨kP, hkP, -⟩ := className_of_methodNamed hnamed
  have hinitP : kP.init = .initialized := Cond.initialized_spec (findClass_of_methodNamed hnamed) hkP hinit
  obtain ⟨vm₁, X₁, hstep₁⟩ := X.invokestatic hexec hown hlink hnamed hmethM hstatic hkP hinitP hy (g := g) hg (argsL := argsL) (rest := rest) (hlen _ hsigM) hstack hdg
  obtain ⟨v, B, X', hpost, hsteps⟩ := hK m meth c ⟨T.setVm vm₁, locs, cells, slots⟩ { g with stack := rest } (.invokestatic index) mk argsL.toArray X₁ hg hsize hdg hW (X₁.named hnamed) (hpre vm₁ X₁.warmed)
  exact ⟨v, vm₁, B, X₁.warmed, X', hpost, fun target h => hstep₁ _ fun acts => by rw [doInvoke_state]; exact hsteps.trans h⟩
theorem xrunSW {y : MethodName} {bytes cc : ByteArray} {maxL nL mc ms n index : Nat} {ret : Option FieldType} {hh : List (Nat × Nat × Nat × Nat)} {ws : List Cond} {rm : Room} {Pc : Array Value → State → Prop} {Qc : Array Value → State → Outcome → State → Prop} {free : Addr → Prop} {Ts : List Cond} {own : String} {As rest : List Value} {g : JFrame}
    (S : CallFix p m c cc nL s args Ts own) (hM : Met l y ws rm Pc Qc mc ms free)
    (hG : GoodIn Ts ws) (hts : ∀ w ∈ Ts, w.before args s = true) (hcw : Cond.codeWith y bytes maxL ret hh ∈ ws) (hini : Cond.initialized y.cls ∈ Ts) (hl : Cond.methodLink own index y ∈ Ts) (hst : Cond.static y ∈ Ts) (hrc : rm.cells = mc) (hrs : rm.slots = ms)
    (hd : y.cls ≠ "java/lang/invoke/MethodHandle" ∧ y.cls ≠ "java/lang/invoke/VarHandle" ∧ (parseMethodDescriptor y.desc).map (fun d => d.parameters.length) = some n) (hR : rm.frames + 1 ≤ R.frames ∧ 8 + (maxL + 11) + rm.locals ≤ R.locals) (hp : PreS s H Pc As)
    (hg : g.method = m) (hn : As.length = n) (hsize : g.locals.size = nL) (hstack : g.stack = As.reverse ++ rest) (hW : 2 * g.monitorRoom + (rest.map fun v => v.category).sum ≤ 8) (hdg : decode cc g.pc = .ok (.invokestatic index, 3)) (hf : cells + mc ≤ R.cells ∧ slots + ms ≤ R.slots) :
    va_Run p l e R s m args below meth c H locs cells slots mc ms g rest (Qc As.toArray) free := by
  have hini' := hts _ hini
  have hK : Back l R p e below s args y 3 8 (PreOf R mc ms Pc) (PostOf Qc mc ms free) := va_backW (hh := hh) (bytes := bytes) (maxL := maxL) (ret := ret) hM hp.1 hrc hrs hR.1 hR.2 (pay_in hts hG) hcw (fun a' U hW => word_at hW (Or.inl (by first | rfl | simp [Cond.onTables, Cond.keeps, Cond.steady])) hini')
  obtain ⟨hx, hb, hml, ho, -⟩ := S
  intro T hT X
  obtain ⟨v, vm₁, ⟨U', l2, c2, s2⟩, hW₁, X', ⟨g', mk, t, L, e1, e2, hq, h1, hL, h2, h3⟩, st⟩ := xcallSW X hx (bytes := bytes) (maxL := maxL) (ret := ret) (hh := hh) ho (hts _ hl) (hts _ hst) hini' (hts _ (hG _ hcw).1) ⟨hd.1, hd.2.1⟩ hK hg (hsize.trans hml.symm) (argsL := As) (rest := rest) (fun sig h => hn.trans (by
      have h1 := hd.2.2
      rw [h] at h1
      exact (Option.some.inj h1).symm)) hstack hW (by rw [hb]; exact hdg)
    (fun vm₁ hW₁ => ⟨hf.1, hf.2, hp.2 (T.setVm vm₁) hT hW₁⟩)
  dsimp only [Pt.U, Pt.locs, Pt.cells, Pt.slots] at X' e1 e2 h1 h2 h3 st
  subst h1; subst h2; subst h3
  exact ⟨v, (T.setVm vm₁).calling g' mk As.toArray, t, U', L, hT, X', hL, e1, e2, hq, st⟩
end XSW
/-- the tables of the law's methods -/
theorem xlinks {l : Launch} {e : Env} {s : State} {args : Array Value} {own name : String} {d : ClassId} {index : Nat} (ha : l.admits e) (hd : s.vm.findClass own = some d) (h : (Cond.classLink own index name).before args s = true) : ∃ c, s.vm.findClass name = some c ∧ s.vm.ClassLinks e.platform d index c :=
  Cond.classLink_spec hd h e.platform (by rw [ha.platform])
theorem xfit {s : State} {n : String} {c : ClassId} (h : va_Nw (.castable n n) s) (hc : s.vm.findClass n = some c) : s.vm.assignable c c = true := by
  obtain ⟨c1, c2, h1, h2, h3⟩ := Cond.castable_spec h
  cases hc.symm.trans h1
  cases hc.symm.trans h2
  exact h3
theorem xkind {pl : Platform} {s : State} {d : ClassId} {index : Nat} {c : ClassId} (hl : s.vm.ClassLinks pl d index c) : ∃ k, s.vm.classes[c]? = some k := by
  obtain ⟨dk, _, _, kt, hd, _, _, _, _, hkt, _, hopen⟩ := hl.here
  exact ⟨kt, hkt⟩
theorem xTab1 {l : Launch} {e : Env} {s : State} {args : Array Value} {own nm : String} {d : ClassId} {index : Nat} (ha : l.admits e) (hd : s.vm.findClass own = some d) (h : (Cond.classLink own index nm).before args s = true) (hc : va_Nw (.castable nm nm) s)
    {tb : List ExceptionTableEntry} {b hp pc : Nat} {rest : List (Nat × Nat × Nat × Nat)} (ht : tb.map (fun h => (h.startPc, h.endPc, h.handlerPc, h.catchType)) = (0, b, hp, index) :: rest) (hpc : pc < b) (hi : index ≠ 0) :
    ∀ thrown : ClassId, s.vm.findClass nm = some thrown → (∃ k, s.vm.classes[thrown]? = some k) ∧ xTab e.platform s d pc thrown hp tb := by
  intro thrown hth
  obtain ⟨c, hcc, hl⟩ := xlinks ha hd h
  cases hth.symm.trans hcc
  refine ⟨xkind hl, ?_⟩
  cases tb with
  | nil => cases ht
  | cons x t =>
    simp only [List.map_cons, List.cons.injEq, Prod.mk.injEq] at ht
    obtain ⟨⟨e1, e2, e3, e4⟩, -⟩ := ht
    rw [xTab]
    refine Or.inr ⟨?_, by rw [e4]; exact hi, thrown, by rw [e4]; exact hl, Or.inl ⟨xfit hc hth, e3⟩⟩
    simp [covers, e1, e2, hpc]
theorem xTab2 {l : Launch} {e : Env} {s : State} {args : Array Value} {own nm n1 : String} {d : ClassId} {index i1 : Nat} (ha : l.admits e) (hd : s.vm.findClass own = some d) (h1 : (Cond.classLink own i1 n1).before args s = true) (h : (Cond.classLink own index nm).before args s = true) (hc : va_Nw (.castable nm nm) s)
    (hno : ∀ c1 c2 : ClassId, s.vm.findClass nm = some c1 → s.vm.findClass n1 = some c2 → s.vm.assignable c1 c2 = false)
    {tb : List ExceptionTableEntry} {b b1 hp hp1 pc : Nat} {rest : List (Nat × Nat × Nat × Nat)} (ht : tb.map (fun h => (h.startPc, h.endPc, h.handlerPc, h.catchType)) = (0, b1, hp1, i1) :: (0, b, hp, index) :: rest) (hpc1 : pc < b1) (hpc : pc < b) (hi1 : i1 ≠ 0) (hi : index ≠ 0) :
    ∀ thrown : ClassId, s.vm.findClass nm = some thrown → (∃ k, s.vm.classes[thrown]? = some k) ∧ xTab e.platform s d pc thrown hp tb := by
  intro thrown hth
  cases tb with
  | nil => cases ht
  | cons x t =>
    simp only [List.map_cons, List.cons.injEq, Prod.mk.injEq] at ht
    obtain ⟨⟨e1, e2, e3, e4⟩, ht⟩ := ht
    obtain ⟨hk, hT⟩ := xTab1 (e := e) ha hd h hc ht hpc hi thrown hth
    obtain ⟨c, hcc, hl⟩ := xlinks (e := e) ha hd h1
    refine ⟨hk, ?_⟩
    rw [xTab]
    refine Or.inr ⟨?_, by rw [e4]; exact hi1, c, by rw [e4]; exact hl, Or.inr ⟨hno thrown c hth hcc, hT⟩⟩
    simp [covers, e1, e2, hpc1]
theorem xhand {p : Program} {l : Launch} {x : MethodName} {S : Spec} {code : ByteArray} {maxLocals : Nat} {ret : Option FieldType} {e : Env} {s : State} {m : MethodId} {args : Array Value} {below : List Frame} {meth : Method} {c : Code} {s₁ : State} {hh : List (Nat × Nat × Nat × Nat)}
    (B : BodyLoose p l x S code maxLocals ret e s m args below meth c s₁) (h : (Cond.codeWith x code maxLocals ret hh).before args s = true) : c.exceptionTable.toList.map (fun h => (h.startPc, h.endPc, h.handlerPc, h.catchType)) = hh := by
  obtain ⟨m', meth', c', hn', hm', hc', -, -, he', -⟩ := Cond.codeWith_spec h
  cases B.named.symm.trans hn'
  cases B.method.symm.trans hm'
  cases (Stand.of_body B).code.symm.trans hc'
  exact he'
