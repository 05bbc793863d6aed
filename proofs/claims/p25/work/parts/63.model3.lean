theorem oth_join {τ : Type} {R : τ → Prop} {K : Int32 → Option τ} {x y : Bool} {w : Int32} (hw : w = 8 ∨ w = 9 ∨ w = 10) (hK : Ok (K (nI (if (if w = 8 then x else if w = 9 then y else (x && y)) = true then 1 else 0))) R) :
    Ok (jn (u0 (K 1)) (fun K11 => jn (u0 ((jn (u0 ((jn (u0 (K 0)) (fun K14 => (if w = 10 then (if (if x = true then (1 : Int32) else 0) = 0 then K14 () else (if (if y = true then (1 : Int32) else 0) = 0 then K14 () else K11 ())) else K14 ()))))) (fun K13 => (if w = 9 then (if (if y = true then (1 : Int32) else 0) = 0 then K13 () else K11 ()) else K13 ()))))) (fun K12 => (if w = 8 then (if (if x = true then (1 : Int32) else 0) = 0 then K12 () else K11 ()) else K12 ())))) R := by
  dsimp only [jn, u0]
  rcases hw with rfl | rfl | rfl <;> cases x <;> cases y <;> simp [nI] at hK ⊢ <;> exact hK
theorem par_join {τ : Type} {R : τ → Prop} {K : Int32 → Option τ} {x y : Bool} {w : Int32} (hK : Ok (K (nI (if (if w = 0 then (x ^^ y) else (x && y)) = true then 1 else 0))) R) :
    Ok (if w = 0 then (if (if x = true then (1 : Int32) else 0) = (if y = true then (1 : Int32) else 0) then K 0 else K 1) else (jn (u0 (K 0)) (fun K16 => (if (if x = true then (1 : Int32) else 0) = 0 then K16 () else (if (if y = true then (1 : Int32) else 0) = 0 then K16 () else K 1))))) R := by
  dsimp only [jn, u0]
  by_cases hw : w = 0 <;> cases x <;> cases y <;> simp [hw, nI] at hK ⊢ <;> exact hK
def othV (E : Nat → Nat → Bool) (n b : Nat) (w : Int32) : Int32 := if w = 8 then nI (cd n (bfM E n b)) else if w = 9 then nI (cd n (bfM (tr E) n b)) else nI (cd n (bfM E n b &&& bfM (tr E) n b))
def othB (E : Nat → Nat → Bool) (b : Nat) (w : Int32) (k : Nat) : Bool := if w = 8 then E k b else if w = 9 then E b k else (E k b && E b k)
theorem othV_e {E : Nat → Nat → Bool} {n b : Nat} {w : Int32} : othV E n b w = nI (sm (fun k => if othB E b w k = true then 1 else 0) n) := by
  unfold othV othB
  by_cases h : w = 8
  · simp only [if_pos h, bfM, cd_msk]
  · by_cases h9 : w = 9
    · simp only [if_neg h, if_pos h9, bfM, cd_msk, tr]
    · simp only [if_neg h, if_neg h9, bf_and, cd_msk]
def havV (n : Nat) (P Y : Nat → Int32) (w : Int32) : Nat := if w = 2 then havY n Y else havP n P (w - 7)
def paB (E : Nat → Nat → Bool) (both : Int32) (a b : Nat) : Bool := if both = 0 then (E a b ^^ E b a) else (E a b && E b a)
theorem pa_1 (E : Nat → Nat → Bool) (n : Nat) : sm (fun b => sm (fun a => if paB E 1 a b = true then 1 else 0) b) n = conP E n := rfl
theorem pa_0 (E : Nat → Nat → Bool) (n : Nat) : sm (fun b => sm (fun a => if paB E 0 a b = true then 1 else 0) b) n = ordP E n := rfl
