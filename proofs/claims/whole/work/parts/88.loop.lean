section Start0
variable {p : Program} {l : Launch} {e : Env} {s : State} {m : MethodId} {args : Array Value} {below : List Frame} {meth : Method} {c : Code} {cells slots : Nat} {Q : State → Prop} {D : va_G} {A : Nat → Prop} {cI cS cL : ClassId} {q ad : Nat → Nat} {b Ln k : Nat} {xs : Nat → Int32}
theorem law_loop (C : LC p l s m args c D A cI cS cL b Ln xs) (hend : ∀ k, k ≤ 513 → LNx p l e s m args below meth c Q D A cI cS cL q b k (76 + k) (4260 + 6 * k) 1340) : ∀ n k, Ln + 5 ≤ 5 * (k + n) → k ≤ 513 → LNx p l e s m args below meth c Q D A cI cS cL q b k (76 + k) (4260 + 6 * k) 23 := by
  sorry
end Start0
