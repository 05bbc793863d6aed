theorem sh4_rf (n : Nat) (P L M Y : Nat → Int32) : sh4 n P L M Y P L M Y := fun _ _ => ⟨rfl, rfl, rfl, rfl⟩
theorem up_s {α : Type} {f : Nat → α} {k : Nat} {v : α} : va_up f k v k = v := if_pos rfl
theorem up_n {α : Type} {f : Nat → α} {k j : Nat} {v : α} (h : j ≠ k) : va_up f k v j = f j := if_neg h
theorem keep0_e {n : Nat} {P L M Y : Nat → Int32} {hN : Nat → Int32} {hP hL hM hY : Nat → Nat → Int32} (hn : n ≤ 10) : Ok (f_X0_keep_0 hN hP hL hM hY (nI n) P L M Y) (fun o => ∃ p l m y, sh4 n P L M Y p l m y ∧ o = (va_up hN 0 (nI n), va_up hP 0 p, va_up hL 0 l, va_up hM 0 m, va_up hY 0 y)) := by
  unfold f_X0_keep_0
  refine ok_bd _ (copyFrom_e hn) ?_
  rintro ⟨o2, o3, o4, o5, o6⟩ ⟨h1, h2⟩
  dsimp only at h1 h2
  subst h1
  exact ok_u5 (ok_s ⟨o3, o4, o5, o6, h2, rfl⟩)
theorem keep1_e {n : Nat} {P L M Y : Nat → Int32} {hN : Nat → Int32} {hP hL hM hY : Nat → Nat → Int32} (hn : n ≤ 10) : Ok (f_X0_keep_1 hN hP hL hM hY (nI n) P L M Y) (fun o => ∃ p l m y, sh4 n P L M Y p l m y ∧ o = (va_up hN 1 (nI n), va_up hP 1 p, va_up hL 1 l, va_up hM 1 m, va_up hY 1 y)) := by
  unfold f_X0_keep_1
  refine ok_bd _ (copyFrom_e hn) ?_
  rintro ⟨o2, o3, o4, o5, o6⟩ ⟨h1, h2⟩
  dsimp only at h1 h2
  subst h1
  exact ok_u5 (ok_s ⟨o3, o4, o5, o6, h2, rfl⟩)
theorem keep2_e {n : Nat} {P L M Y : Nat → Int32} {hN : Nat → Int32} {hP hL hM hY : Nat → Nat → Int32} (hn : n ≤ 10) : Ok (f_X0_keep_2 hN hP hL hM hY (nI n) P L M Y) (fun o => ∃ p l m y, sh4 n P L M Y p l m y ∧ o = (va_up hN 2 (nI n), va_up hP 2 p, va_up hL 2 l, va_up hM 2 m, va_up hY 2 y)) := by
  unfold f_X0_keep_2
  refine ok_bd _ (copyFrom_e hn) ?_
  rintro ⟨o2, o3, o4, o5, o6⟩ ⟨h1, h2⟩
  dsimp only at h1 h2
  subst h1
  exact ok_u5 (ok_s ⟨o3, o4, o5, o6, h2, rfl⟩)
theorem keep3_e {n : Nat} {P L M Y : Nat → Int32} {hN : Nat → Int32} {hP hL hM hY : Nat → Nat → Int32} (hn : n ≤ 10) : Ok (f_X0_keep_3 hN hP hL hM hY (nI n) P L M Y) (fun o => ∃ p l m y, sh4 n P L M Y p l m y ∧ o = (va_up hN 3 (nI n), va_up hP 3 p, va_up hL 3 l, va_up hM 3 m, va_up hY 3 y)) := by
  unfold f_X0_keep_3
  refine ok_bd _ (copyFrom_e hn) ?_
  rintro ⟨o2, o3, o4, o5, o6⟩ ⟨h1, h2⟩
  dsimp only at h1 h2
  subst h1
  exact ok_u5 (ok_s ⟨o3, o4, o5, o6, h2, rfl⟩)
theorem keep4_e {n : Nat} {P L M Y : Nat → Int32} {hN : Nat → Int32} {hP hL hM hY : Nat → Nat → Int32} (hn : n ≤ 10) : Ok (f_X0_keep_4 hN hP hL hM hY (nI n) P L M Y) (fun o => ∃ p l m y, sh4 n P L M Y p l m y ∧ o = (va_up hN 4 (nI n), va_up hP 4 p, va_up hL 4 l, va_up hM 4 m, va_up hY 4 y)) := by
  unfold f_X0_keep_4
  refine ok_bd _ (copyFrom_e hn) ?_
  rintro ⟨o2, o3, o4, o5, o6⟩ ⟨h1, h2⟩
  dsimp only at h1 h2
  subst h1
  exact ok_u5 (ok_s ⟨o3, o4, o5, o6, h2, rfl⟩)
theorem keep5_e {n : Nat} {P L M Y : Nat → Int32} {hN : Nat → Int32} {hP hL hM hY : Nat → Nat → Int32} (hn : n ≤ 10) : Ok (f_X0_keep_5 hN hP hL hM hY (nI n) P L M Y) (fun o => ∃ p l m y, sh4 n P L M Y p l m y ∧ o = (va_up hN 5 (nI n), va_up hP 5 p, va_up hL 5 l, va_up hM 5 m, va_up hY 5 y)) := by
  unfold f_X0_keep_5
  refine ok_bd _ (copyFrom_e hn) ?_
  rintro ⟨o2, o3, o4, o5, o6⟩ ⟨h1, h2⟩
  dsimp only at h1 h2
  subst h1
  exact ok_u5 (ok_s ⟨o3, o4, o5, o6, h2, rfl⟩)
theorem keepL_e {n h : Nat} {P L M Y : Nat → Int32} {hN : Nat → Int32} {hP hL hM hY : Nat → Nat → Int32} (hn : n ≤ 10) (hh : h < 6) : Ok (f_X0_keep (nI h) hN hP hL hM hY (nI n) P L M Y) (fun o => o.1 = nI (h + 1) ∧ ∃ p l m y, sh4 n P L M Y p l m y ∧ o.2 = (va_up hN h (nI n), va_up hP h p, va_up hL h l, va_up hM h m, va_up hY h y)) := by
  unfold f_X0_keep
  match h, hh with
  | 0, _ =>
    refine ok_t rfl (ok_bd _ (keep0_e hn) ?_)
    rintro ⟨q0, q1, q2, q3, q4⟩ hq
    exact ok_u5 (ok_s ⟨rfl, hq⟩)
  | 1, _ =>
    refine ok_f (by decide) (ok_t rfl (ok_bd _ (keep1_e hn) ?_))
    rintro ⟨q0, q1, q2, q3, q4⟩ hq
    exact ok_u5 (ok_s ⟨rfl, hq⟩)
  | 2, _ =>
    refine ok_f (by decide) (ok_f (by decide) (ok_t rfl (ok_bd _ (keep2_e hn) ?_)))
    rintro ⟨q0, q1, q2, q3, q4⟩ hq
    exact ok_u5 (ok_s ⟨rfl, hq⟩)
  | 3, _ =>
    refine ok_f (by decide) (ok_f (by decide) (ok_f (by decide) (ok_t rfl (ok_bd _ (keep3_e hn) ?_))))
    rintro ⟨q0, q1, q2, q3, q4⟩ hq
    exact ok_u5 (ok_s ⟨rfl, hq⟩)
  | 4, _ =>
    refine ok_f (by decide) (ok_f (by decide) (ok_f (by decide) (ok_f (by decide) (ok_t rfl (ok_bd _ (keep4_e hn) ?_)))))
    rintro ⟨q0, q1, q2, q3, q4⟩ hq
    exact ok_u5 (ok_s ⟨rfl, hq⟩)
  | 5, _ =>
    refine ok_f (by decide) (ok_f (by decide) (ok_f (by decide) (ok_f (by decide) (ok_f (by decide) (ok_t rfl (ok_bd _ (keep5_e hn) ?_))))))
    rintro ⟨q0, q1, q2, q3, q4⟩ hq
    exact ok_u5 (ok_s ⟨rfl, hq⟩)
  | h + 6, hh => omega
theorem keep6_e {n : Nat} {P L M Y : Nat → Int32} {hN : Nat → Int32} {hP hL hM hY : Nat → Nat → Int32} (hn : n ≤ 10) : Ok (f_X0_keep (nI 6) hN hP hL hM hY (nI n) P L M Y) (fun o => o.1 = nI 6 ∧ ∃ p l m y, sh4 n P L M Y p l m y ∧ o.2 = (va_up (fun j => hN (j + 1)) 5 (nI n), va_up (fun j => hP (j + 1)) 5 p, va_up (fun j => hL (j + 1)) 5 l, va_up (fun j => hM (j + 1)) 5 m, va_up (fun j => hY (j + 1)) 5 y)) := by
  unfold f_X0_keep
  refine ok_f (by decide) (ok_f (by decide) (ok_f (by decide) (ok_f (by decide) (ok_f (by decide) (ok_f (by decide) (ok_t rfl ?_))))))
  unfold f_X0_keep_6 f_X0_dropOldest
  refine ok_bd (fun o => ∃ p l m y, sh4 n P L M Y p l m y ∧ o = (va_up (fun j => hN (j + 1)) 5 (nI n), va_up (fun j => hP (j + 1)) 5 p, va_up (fun j => hL (j + 1)) 5 l, va_up (fun j => hM (j + 1)) 5 m, va_up (fun j => hY (j + 1)) 5 y)) ?_ ?_
  · refine ok_be rfl (ok_u0 (ok_bd _ (copyFrom_e hn) ?_))
    rintro ⟨o2, o3, o4, o5, o6⟩ ⟨h1, h2⟩
    dsimp only at h1 h2
    subst h1
    exact ok_u5 (ok_s ⟨o3, o4, o5, o6, h2, rfl⟩)
  · rintro ⟨q0, q1, q2, q3, q4⟩ hq
    exact ok_u5 (ok_s ⟨rfl, hq⟩)
theorem rest1_e {n : Nat} {z : Int32} {p l m y : Nat → Int32} {hN : Nat → Int32} {hP hL hM hY : Nat → Nat → Int32} (hn : n ≤ 10) (hh : hN 0 = nI n) : Ok (f_X0_restoreLatest_1 hN hP hL hM hY z p l m y) (fun o => o.1 = nI n ∧ sh4 n (hP 0) (hL 0) (hM 0) (hY 0) o.2.1 o.2.2.1 o.2.2.2.1 o.2.2.2.2) := by
  unfold f_X0_restoreLatest_1
  rw [hh]
  refine ok_bd _ (copyFrom_e hn) ?_
  rintro ⟨o2, o3, o4, o5, o6⟩ h1
  exact ok_u5 (ok_s h1)
theorem rest2_e {n : Nat} {z : Int32} {p l m y : Nat → Int32} {hN : Nat → Int32} {hP hL hM hY : Nat → Nat → Int32} (hn : n ≤ 10) (hh : hN 1 = nI n) : Ok (f_X0_restoreLatest_2 hN hP hL hM hY z p l m y) (fun o => o.1 = nI n ∧ sh4 n (hP 1) (hL 1) (hM 1) (hY 1) o.2.1 o.2.2.1 o.2.2.2.1 o.2.2.2.2) := by
  unfold f_X0_restoreLatest_2
  rw [hh]
  refine ok_bd _ (copyFrom_e hn) ?_
  rintro ⟨o2, o3, o4, o5, o6⟩ h1
  exact ok_u5 (ok_s h1)
theorem rest3_e {n : Nat} {z : Int32} {p l m y : Nat → Int32} {hN : Nat → Int32} {hP hL hM hY : Nat → Nat → Int32} (hn : n ≤ 10) (hh : hN 2 = nI n) : Ok (f_X0_restoreLatest_3 hN hP hL hM hY z p l m y) (fun o => o.1 = nI n ∧ sh4 n (hP 2) (hL 2) (hM 2) (hY 2) o.2.1 o.2.2.1 o.2.2.2.1 o.2.2.2.2) := by
  unfold f_X0_restoreLatest_3
  rw [hh]
  refine ok_bd _ (copyFrom_e hn) ?_
  rintro ⟨o2, o3, o4, o5, o6⟩ h1
  exact ok_u5 (ok_s h1)
theorem rest4_e {n : Nat} {z : Int32} {p l m y : Nat → Int32} {hN : Nat → Int32} {hP hL hM hY : Nat → Nat → Int32} (hn : n ≤ 10) (hh : hN 3 = nI n) : Ok (f_X0_restoreLatest_4 hN hP hL hM hY z p l m y) (fun o => o.1 = nI n ∧ sh4 n (hP 3) (hL 3) (hM 3) (hY 3) o.2.1 o.2.2.1 o.2.2.2.1 o.2.2.2.2) := by
  unfold f_X0_restoreLatest_4
  rw [hh]
  refine ok_bd _ (copyFrom_e hn) ?_
  rintro ⟨o2, o3, o4, o5, o6⟩ h1
  exact ok_u5 (ok_s h1)
theorem rest5_e {n : Nat} {z : Int32} {p l m y : Nat → Int32} {hN : Nat → Int32} {hP hL hM hY : Nat → Nat → Int32} (hn : n ≤ 10) (hh : hN 4 = nI n) : Ok (f_X0_restoreLatest_5 hN hP hL hM hY z p l m y) (fun o => o.1 = nI n ∧ sh4 n (hP 4) (hL 4) (hM 4) (hY 4) o.2.1 o.2.2.1 o.2.2.2.1 o.2.2.2.2) := by
  unfold f_X0_restoreLatest_5
  rw [hh]
  refine ok_bd _ (copyFrom_e hn) ?_
  rintro ⟨o2, o3, o4, o5, o6⟩ h1
  exact ok_u5 (ok_s h1)
theorem rest6_e {n : Nat} {z : Int32} {p l m y : Nat → Int32} {hN : Nat → Int32} {hP hL hM hY : Nat → Nat → Int32} (hn : n ≤ 10) (hh : hN 5 = nI n) : Ok (f_X0_restoreLatest_6 hN hP hL hM hY z p l m y) (fun o => o.1 = nI n ∧ sh4 n (hP 5) (hL 5) (hM 5) (hY 5) o.2.1 o.2.2.1 o.2.2.2.1 o.2.2.2.2) := by
  unfold f_X0_restoreLatest_6
  rw [hh]
  refine ok_bd _ (copyFrom_e hn) ?_
  rintro ⟨o2, o3, o4, o5, o6⟩ h1
  exact ok_u5 (ok_s h1)
theorem restL_e {n h : Nat} {z : Int32} {p l m y : Nat → Int32} {hN : Nat → Int32} {hP hL hM hY : Nat → Nat → Int32} (hn : n ≤ 10) (hlt : h < 6) (hh : hN h = nI n) : Ok (f_X0_restoreLatest (nI (h + 1)) hN hP hL hM hY z p l m y) (fun o => o.1 = nI h ∧ o.2.1 = nI n ∧ sh4 n (hP h) (hL h) (hM h) (hY h) o.2.2.1 o.2.2.2.1 o.2.2.2.2.1 o.2.2.2.2.2) := by
  unfold f_X0_restoreLatest
  match h, hlt with
  | 0, _ =>
    refine ok_f (by decide) (ok_t rfl (ok_bd _ (rest1_e hn hh) ?_))
    rintro ⟨q0, q1, q2, q3, q4⟩ hq
    exact ok_u5 (ok_s ⟨rfl, hq⟩)
  | 1, _ =>
    refine ok_f (by decide) (ok_f (by decide) (ok_t rfl (ok_bd _ (rest2_e hn hh) ?_)))
    rintro ⟨q0, q1, q2, q3, q4⟩ hq
    exact ok_u5 (ok_s ⟨rfl, hq⟩)
  | 2, _ =>
    refine ok_f (by decide) (ok_f (by decide) (ok_f (by decide) (ok_t rfl (ok_bd _ (rest3_e hn hh) ?_))))
    rintro ⟨q0, q1, q2, q3, q4⟩ hq
    exact ok_u5 (ok_s ⟨rfl, hq⟩)
  | 3, _ =>
    refine ok_f (by decide) (ok_f (by decide) (ok_f (by decide) (ok_f (by decide) (ok_t rfl (ok_bd _ (rest4_e hn hh) ?_)))))
    rintro ⟨q0, q1, q2, q3, q4⟩ hq
    exact ok_u5 (ok_s ⟨rfl, hq⟩)
  | 4, _ =>
    refine ok_f (by decide) (ok_f (by decide) (ok_f (by decide) (ok_f (by decide) (ok_f (by decide) (ok_t rfl (ok_bd _ (rest5_e hn hh) ?_))))))
    rintro ⟨q0, q1, q2, q3, q4⟩ hq
    exact ok_u5 (ok_s ⟨rfl, hq⟩)
  | 5, _ =>
    refine ok_f (by decide) (ok_f (by decide) (ok_f (by decide) (ok_f (by decide) (ok_f (by decide) (ok_f (by decide) (ok_t rfl (ok_bd _ (rest6_e hn hh) ?_)))))))
    rintro ⟨q0, q1, q2, q3, q4⟩ hq
    exact ok_u5 (ok_s ⟨rfl, hq⟩)
  | h + 6, hh => omega
/-! the reference's saves -/
theorem nI_41m (k : Nat) : (41 : Int32) * nI k = nI (41 * k) := by rw [← pk_mul]; rfl
