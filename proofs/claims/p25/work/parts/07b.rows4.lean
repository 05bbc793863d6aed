section GRows4
variable {p : Program} {l : Launch} {e : Env} {R : Room} {s : State} {m : MethodId} {args : Array Value} {below : List Frame} {meth : Method} {c : Code} {cells slots : Nat} {Q : State → Prop}
variable {cc : ByteArray} {nL : Nat} {own : String} {Ts : List Cond} {D : va_G} {tys : List (ClassId × FieldType)} {A : Nat → Prop} {ws ws' : va_W} {lv lv' : List (Nat × Value)} {pc : Nat} {st : List Value}
variable {y : MethodName} {bytes : ByteArray} {maxL index : Nat} {rt : Option FieldType} {w w' : List Cond} {rm : Room} {As : List Value} {v : Option Value}
/-- a static call of a method that has no world -/
theorem g_callS0 {n : Nat} (X : GC p s m args c cc nL own Ts D tys A) (hM : KM l y w rm D tys As [] v (fun w => w = []) 0 0) (hg : GoodIn Ts (va_wsS own index y w)) (hw : w = Cond.code y bytes maxL rt :: w') (hrm : rm.cells = 0 ∧ rm.slots = 0)
    (hd : y.cls ≠ "java/lang/invoke/MethodHandle" ∧ y.cls ≠ "java/lang/invoke/VarHandle" ∧ (parseMethodDescriptor y.desc).map (fun d => d.parameters.length) = some n) (hR : rm.frames + 1 ≤ R.frames ∧ 8 + (maxL + 11) + rm.locals ≤ R.locals) (hf : cells ≤ R.cells ∧ slots ≤ R.slots)
    (hlen : As.length = n) (hsum : (st.map fun v => v.category).sum ≤ 8) {st0 : List Value} (hst : st0 = As.reverse ++ st)
    (hdg : decode cc pc = .ok (.invokestatic index, 3)) (kk : GG p l e R s m args below meth c cells slots Q nL D A ws lv (pc + 3) (v.toList ++ st)) : GG p l e R s m args below meth c cells slots Q nL D A ws lv pc st0 :=
  g_callS (is := []) (w1 := []) (ws' := ws) X hM hg hw hrm hd hR hf rfl rfl rfl rfl hlen hsum hst hdg kk
end GRows4
