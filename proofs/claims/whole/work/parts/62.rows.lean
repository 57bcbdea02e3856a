theorem xcA {D : va_G} {cl : List vw_C} {tys : List (ClassId × FieldType)} {s : State} {cA cB : ClassId} (ty : FieldType) (hr : ∀ c : ClassId, va_RA s c ty = (s.vm.findClass ("[" ++ ty.toString) = some c)) (h : va_K D cl (tys ++ [(cA, ty)]) s) (i : Nat) (hi : tys[i]? = some (cB, ty)) : cA = cB := by
  have hl : i < tys.length := (List.getElem?_eq_some_iff.mp hi).1
  have h1 := (h.2 i (cB, ty) (by rw [List.getElem?_append_left hl]; exact hi)).2
  have h2 := (h.2 tys.length (cA, ty) (by simp)).2
  rw [hr] at h1 h2
  exact Option.some.inj (h2.symm.trans h1)
theorem xlz {nv : Nat} (h1 : 1 ≤ nv) (h2 : nv ≤ 10) : (1 : Int32) <<< ((nI nv - 1) &&& 31) = nI (2 ^ (nv - 1)) := by
  have h : ∀ n, n < 11 → 1 ≤ n → (1 : Int32) <<< ((nI n - 1) &&& 31) = nI (2 ^ (n - 1)) := by decide +kernel
  exact h nv (by omega) h1
theorem xlz2 {nv : Nat} (h1 : 1 ≤ nv) (h2 : nv ≤ 10) : 2 ^ (nv - 1) ≤ 512 := by
  have h : ∀ n, n < 11 → 1 ≤ n → 2 ^ (n - 1) ≤ 512 := by decide +kernel
  exact h nv (by omega) h1
section XRL
variable {p : Program} {l : Launch} {e : Env} {R : Room} {s : State} {m : MethodId} {args : Array Value} {below : List Frame} {meth : Method} {c : Code} {H : Heap} {locs : List Loc} {cells slots : Nat} {Q : State → Prop}
variable {cc : ByteArray} {pc : Nat} {ls : Array Slot} {rest : List Value}
theorem xr_lz {nv lz : Nat} (h1 : 1 ≤ nv) (h2 : nv ≤ 10) (hz : lz = 2 ^ (nv - 1)) (hexec : p.tables.exec = Jvm.exec) (hb : c.code = cc) (hdg : decode cc pc = .ok (.ishl, 1)) (k : W p l e R s m args below meth c H locs cells slots Q (F0 m (pc + 1) ls (.int (nI lz) :: rest))) : W p l e R s m args below meth c H locs cells slots Q (F0 m pc ls (.int (nI nv - 1) :: .int 1 :: rest)) := by
  refine lv_ishl hexec hb hdg ?_
  rw [xlz h1 h2, ← hz]
  exact k
end XRL
section XCI
variable {R : Room} {s : State} {args : Array Value} {own : String} {index : Nat} {y : MethodName} {bytes : ByteArray} {maxL mc ms : Nat} {rm : Room} {c0 : Cond}
theorem xcwI (n : Nat) (hts : ∀ w ∈ c0 :: xtb, w.before args s = true) (hc : Cond.code y bytes maxL none ∈ xtb) (hini : Cond.initialized y.cls ∈ xtb) (hl : Cond.methodLink own index y ∈ xtb) (hi : Cond.instanceMethod y ∈ xtb) (hy1 : y.name = "<init>") (hrc : rm.cells = mc) (hrs : rm.slots = ms)
    (hd : y.cls ≠ "java/lang/invoke/MethodHandle" ∧ y.cls ≠ "java/lang/invoke/VarHandle" ∧ (parseMethodDescriptor y.desc).map (fun d => d.parameters.length) = some n) (hR : rm.frames + 1 ≤ R.frames ∧ 8 + (maxL + 11) + rm.locals ≤ R.locals) :
    CallB R s args own index y bytes maxL none (Cond.code y bytes maxL none :: xtb) rm mc ms n ∧ y.name = "<init>" ∧ (Cond.instanceMethod y).before args s = true :=
  ⟨xcw n hts hc hini hl hrc hrs hd hR, hy1, hts _ (List.mem_cons_of_mem _ hi)⟩
end XCI
theorem xz_i (n : Nat) (cA : ClassId) : vp_cell cA (n, .inl (fun _ => 0)) = arrV cA n (fun _ => defaultValue .int) := rfl
theorem xz_z (n : Nat) (cA : ClassId) : vp_cell cA (n, .inl (fun _ => 0)) = arrV cA n (fun _ => defaultValue .boolean) := rfl
theorem xz_l (n : Nat) (cA : ClassId) : vp_cell cA (n, .inr (.inl (fun _ => 0))) = arrV cA n (fun _ => defaultValue .long) := rfl
