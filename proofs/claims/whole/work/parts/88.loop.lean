section Start0
variable {p : Program} {l : Launch} {e : Env} {s : State} {m : MethodId} {args : Array Value} {below : List Frame} {meth : Method} {c : Code} {cells slots : Nat} {Q : State → Prop} {D : va_G} {A : Nat → Prop} {cI cS cL : ClassId} {q ad : Nat → Nat} {b Ln k : Nat} {xs : Nat → Int32}
set_option maxHeartbeats 4000000 in
theorem law_head (C : LC p l s m args c D A cI cS cL b Ln xs) (hk : k ≤ 513) (hend : LNx p l e s m args below meth c Q D A cI cS cL q b k (76 + k) (4260 + 6 * k) 1340) (hnext : 5 * k + 5 ≤ Ln → LNx p l e s m args below meth c Q D A cI cS cL q b k (76 + k + 1) (4260 + 6 * k + 6) 1334) : LNx p l e s m args below meth c Q D A cI cS cL q b k (76 + k) (4260 + 6 * k) 23 := by
  intro ad len old sN P L M Y zN s1 s2 s3 s4 hs hN hP hL hM hY cn any rs bef beh fy ly aB aH tab c2 any2 rs2 b1 b2 b3 b4 b5 b6 tb2 rPa rSt rPr rLe rMo rYe rSc fN fP fL fM fY codes kept typed th at_ flt val tolds now thn past text told bfr ways yrs out h ht
  obtain ⟨X, Yt, hlt, hX, hbl, hbA, hLn⟩ := id C
  have e1 : (nI (5 * k)).toInt = ((5 * k : Nat) : Int) := nI_toInt (by omega)
  have e2 : (nI Ln - nI 5).toInt = (Ln : Int) - 5 := pk_sub_toInt (by omega) (by omega)
  refine g_iload X (j := 4) dL_law_23 rfl (g_aload_n X (k := 0) (j := 0) dL_law_25 rfl (g_slen X hX hbl hbA dL_law_26 (g_iconst X (v := nI 5) dL_law_27 rfl (g_isub X dL_law_28 ?_))))
  by_cases hgt : 5 * k + 5 ≤ Ln
  · have hcs : 76 + k + 1 ≤ 601024 ∧ 4260 + 6 * k + 6 ≤ 7293034 := by omega
    refine g_icmpF_gt X (tgt := 1340) ?_ dL_law_29 (by decide) ?_
    · show ¬ (nI Ln - nI 5 < nI (5 * k))
      rw [Int32.lt_iff_toInt_lt]
      omega
    refine g_aload_n X (k := 0) (j := 0) dL_law_32 rfl (g_iload X (j := 4) dL_law_33 rfl (g_sld X hX hbl hbA (vp_in_nI (by omega) (by omega)) dL_law_35 (g_bipush X (v := 31) dL_law_36 rfl (g_iand X dL_law_38 ?_))))
    rw [nI_clamp (by omega)]
    obtain ⟨j, hj, ej⟩ := pk_andE (xs (5 * k)) (m := 31) 5 (by decide)
    rw [ej]
    have hdef : ∀ i, 22 ≤ i → i < 32 → GG p l e room_1 s m args below meth c (76 + k) (4260 + 6 * k) Q 9 D A (LW cI cS cL q ad len old sN P L M Y zN s1 s2 s3 s4 hs hN hP hL hM hY cn any rs bef beh fy ly aB aH tab c2 any2 rs2 b1 b2 b3 b4 b5 b6 tb2 rPa rSt rPr rLe rMo rYe rSc fN fP fL fM fY codes kept typed th at_ flt val tolds now thn past text told bfr ways yrs out) [(0, .ref b), (1, .ref (q 0)), (2, .ref (q 66)), (3, .ref (q 75)), (4, .int (nI (5 * k)))] 39 [.int (nI i)] := fun i h1 h2 =>
      g_tabD X dL_law_39 (Or.inr (by rw [nI_toInt (by omega)]; omega)) (tgt := 1334) (by decide) (g_widen (Nat.le_succ _) (Nat.le_add_right _ 6) (hnext hgt ad len old sN P L M Y zN s1 s2 s3 s4 hs hN hP hL hM hY cn any rs bef beh fy ly aB aH tab c2 any2 rs2 b1 b2 b3 b4 b5 b6 tb2 rPa rSt rPr rLe rMo rYe rSc fN fP fL fM fY codes kept typed th at_ flt val tolds now thn past text told bfr ways yrs out h ht))
    match j, hj with
    | 0, _ => exact g_tabK X dL_law_39 (by decide) (by decide) (off := 101) rfl (tgt := 140) (by decide) (law_book C hgt hcs h ht (hnext hgt))
    | 1, _ => exact g_tabK X dL_law_39 (by decide) (by decide) (off := 193) rfl (tgt := 232) (by decide) (law_take C hgt hcs h ht (hnext hgt))
    | 2, _ => exact g_tabK X dL_law_39 (by decide) (by decide) (off := 249) rfl (tgt := 288) (by decide) (law_crack C hgt hcs h ht (hnext hgt))
    | 3, _ => exact g_tabK X dL_law_39 (by decide) (by decide) (off := 345) rfl (tgt := 384) (by decide) (law_mould C hgt hcs h ht (hnext hgt))
    | 4, _ => exact g_tabK X dL_law_39 (by decide) (by decide) (off := 413) rfl (tgt := 452) (by decide) (law_year C hgt hcs h ht (hnext hgt))
    | 5, _ => exact g_tabK X dL_law_39 (by decide) (by decide) (off := 481) rfl (tgt := 520) (by decide) (law_press C hgt hcs h ht (hnext hgt))
    | 6, _ => exact g_tabK X dL_law_39 (by decide) (by decide) (off := 549) rfl (tgt := 588) (by decide) (law_date C hgt hcs h ht (hnext hgt))
    | 7, _ => exact g_tabK X dL_law_39 (by decide) (by decide) (off := 562) rfl (tgt := 601) (by decide) (law_append C hgt hcs h ht (hnext hgt))
    | 8, _ => exact g_tabK X dL_law_39 (by decide) (by decide) (off := 618) rfl (tgt := 657) (by decide) (law_clearBuffer C hgt hcs h ht (hnext hgt))
    | 9, _ => exact g_tabK X dL_law_39 (by decide) (by decide) (off := 631) rfl (tgt := 670) (by decide) (law_firstError C hgt hcs h ht (hnext hgt))
    | 10, _ => exact g_tabK X dL_law_39 (by decide) (by decide) (off := 644) rfl (tgt := 683) (by decide) (law_books C hgt hcs h ht (hnext hgt))
    | 11, _ => exact g_tabK X dL_law_39 (by decide) (by decide) (off := 688) rfl (tgt := 727) (by decide) (law_undo C hgt hcs h ht (hnext hgt))
    | 12, _ => exact g_tabK X dL_law_39 (by decide) (by decide) (off := 732) rfl (tgt := 771) (by decide) (law_bookOf C hgt hcs h ht (hnext hgt))
    | 13, _ => exact g_tabK X dL_law_39 (by decide) (by decide) (off := 800) rfl (tgt := 839) (by decide) (law_ahead C hgt hcs h ht (hnext hgt))
    | 14, _ => exact g_tabK X dL_law_39 (by decide) (by decide) (off := 868) rfl (tgt := 907) (by decide) (law_count C hgt hcs h ht (hnext hgt))
    | 15, _ => exact g_tabK X dL_law_39 (by decide) (by decide) (off := 924) rfl (tgt := 963) (by decide) (law_order C hgt hcs h ht (hnext hgt))
    | 16, _ => exact g_tabK X dL_law_39 (by decide) (by decide) (off := 980) rfl (tgt := 1019) (by decide) (law_place C hgt hcs h ht (hnext hgt))
    | 17, _ => exact g_tabK X dL_law_39 (by decide) (by decide) (off := 1048) rfl (tgt := 1087) (by decide) (law_wrong C hgt hcs h ht (hnext hgt))
    | 18, _ => exact g_tabK X dL_law_39 (by decide) (by decide) (off := 1104) rfl (tgt := 1143) (by decide) (law_tells C hgt hcs h ht (hnext hgt))
    | 19, _ => exact g_tabK X dL_law_39 (by decide) (by decide) (off := 1160) rfl (tgt := 1199) (by decide) (law_ifYear C hgt hcs h ht (hnext hgt))
    | 20, _ => exact g_tabK X dL_law_39 (by decide) (by decide) (off := 1240) rfl (tgt := 1279) (by decide) (law_datedShare C hgt hcs h ht (hnext hgt))
    | 21, _ => exact g_tabK X dL_law_39 (by decide) (by decide) (off := 1281) rfl (tgt := 1320) (by decide) (law_digest C hgt hcs h ht (hnext hgt))
    | i + 22, hi => exact hdef (i + 22) (by omega) (by omega)
  · refine g_icmpT_gt X (tgt := 1340) ?_ dL_law_29 (by decide) (hend ad len old sN P L M Y zN s1 s2 s3 s4 hs hN hP hL hM hY cn any rs bef beh fy ly aB aH tab c2 any2 rs2 b1 b2 b3 b4 b5 b6 tb2 rPa rSt rPr rLe rMo rYe rSc fN fP fL fM fY codes kept typed th at_ flt val tolds now thn past text told bfr ways yrs out h ht)
    show nI Ln - nI 5 < nI (5 * k)
    rw [Int32.lt_iff_toInt_lt]
    omega
theorem law_loop (C : LC p l s m args c D A cI cS cL b Ln xs) (hend : ∀ k, k ≤ 513 → LNx p l e s m args below meth c Q D A cI cS cL q b k (76 + k) (4260 + 6 * k) 1340) : ∀ n k, Ln + 5 ≤ 5 * (k + n) → k ≤ 513 → LNx p l e s m args below meth c Q D A cI cS cL q b k (76 + k) (4260 + 6 * k) 23 := by
  intro n
  induction n with
  | zero => exact fun k h1 h2 => law_head C h2 (hend k h2) (fun h => absurd h (by omega))
  | succ n ih =>
    intro k h1 h2
    refine law_head C h2 (hend k h2) (fun h => ?_)
    have hLn := C.2.2.2.2.2.2
    intro ad len old sN P L M Y zN s1 s2 s3 s4 hs hN hP hL hM hY cn any rs bef beh fy ly aB aH tab c2 any2 rs2 b1 b2 b3 b4 b5 b6 tb2 rPa rSt rPr rLe rMo rYe rSc fN fP fL fM fY codes kept typed th at_ flt val tolds now thn past text told bfr ways yrs out hst htx
    refine g_widen (k := 76 + (k + 1)) (n := 4260 + 6 * (k + 1)) (by omega) (by omega) ?_
    refine g_iinc C.1 (j := 4) (nI (5 * (k + 1))) dL_law_1334 rfl (nI_add (5 * k) 5) (by decide) rfl (g_goto C.1 dL_law_1337 (tgt := 23) (by decide) (g_lv [1, 2, 3, 4, 0] rfl ?_))
    exact ih (k + 1) (by omega) (by omega) ad len old sN P L M Y zN s1 s2 s3 s4 hs hN hP hL hM hY cn any rs bef beh fy ly aB aH tab c2 any2 rs2 b1 b2 b3 b4 b5 b6 tb2 rPa rSt rPr rLe rMo rYe rSc fN fP fL fM fY codes kept typed th at_ flt val tolds now thn past text told bfr ways yrs out hst htx
end Start0
