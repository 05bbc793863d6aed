theorem lm_upd {n b : Nat} {L : Nat → Int32} {v : Int32} (h : lmOk n L) (hv : 0 ≤ v ∧ v ≤ 4095) : lmOk n (upd L b v) := fun z hz => by
  by_cases e : z = b
  · subst e; rw [pk_us]; exact hv
  · rw [pk_un e]; exact h z hz
theorem yrN_upd {n b : Nat} {M Y : Nat → Int32} {y : Int32} (hY : yrOk n M Y) (h : y = -1 ∨ (1450 ≤ y ∧ y ≤ 1999)) : yrOk n M (upd Y b y) := fun z hz => by
  refine ⟨(hY z hz).1, ?_⟩
  by_cases e : z = b
  · subst e; rw [pk_us]; exact h
  · rw [pk_un e]; exact (hY z hz).2
theorem mdN_upd {n b : Nat} {M Y : Nat → Int32} {m : Int32} (hY : yrOk n M Y) (h : -1 ≤ m) : yrOk n (upd M b m) Y := fun z hz => by
  refine ⟨?_, (hY z hz).2⟩
  by_cases e : z = b
  · subst e; rw [pk_us]; exact h
  · rw [pk_un e]; exact (hY z hz).1
def dl (b : Nat) (f : Nat → Int32) (x : Nat) : Int32 := if x < b then f x else f (x + 1)
def dlp (b i : Nat) (f : Nat → Int32) (x : Nat) : Int32 := if b ≤ x ∧ x < b + i then f (x + 1) else f x
theorem dlp_s (b i : Nat) (f w : Nat → Int32) (hw : ∀ x, w x = dlp b i f x) : ∀ x, upd w (b + i) (w (b + i + 1)) x = dlp b (i + 1) f x := fun x => by
  by_cases e : x = b + i
  · subst e
    rw [pk_us, hw, dlp, dlp, if_neg (by omega), if_pos (by omega)]
  · rw [pk_un e, hw, dlp, dlp]
    by_cases q : b ≤ x ∧ x < b + i
    · rw [if_pos q, if_pos (by omega)]
    · rw [if_neg q, if_neg (by omega)]
theorem dlp_e {b n : Nat} (hb : b < n) (f : Nat → Int32) (x : Nat) (hx : x < n - 1) : dlp b (n - 1 - b) f x = dl b f x := by
  unfold dlp dl
  by_cases q : x < b
  · rw [if_neg (by omega), if_pos q]
  · rw [if_pos (by omega), if_neg q]
theorem remove_e {b n : Nat} {P L M Y : Nat → Int32} (hn : n ≤ 10) (hb : b < n) : Ok (f_X2_remove (nI b) (nI n) P L M Y) (fun o => o.1 = nI (n - 1) ∧ sh4 (n - 1) (dl b P) (dl b L) (dl b M) (dl b Y) o.2.1 o.2.2.1 o.2.2.2.1 o.2.2.2.2) := by
  unfold f_X2_remove
  refine ok_wl (fun i s => s.1 = nI (b + i) ∧ (∀ x, s.2.1 x = dlp b i P x) ∧ (∀ x, s.2.2.1 x = dlp b i L x) ∧ (∀ x, s.2.2.2.1 x = dlp b i M x) ∧ ∀ x, s.2.2.2.2 x = dlp b i Y x)
    (fun r => (∀ x, r.1 x = dlp b (n - 1 - b) P x) ∧ (∀ x, r.2.1 x = dlp b (n - 1 - b) L x) ∧ (∀ x, r.2.2.1 x = dlp b (n - 1 - b) M x) ∧ ∀ x, r.2.2.2 x = dlp b (n - 1 - b) Y x) (n - 1 - b) (by omega) ⟨rfl, ?_, ?_, ?_, ?_⟩ ?_ ?_ ?_
  · intro x; rw [dlp, if_neg (by omega)]
  · intro x; rw [dlp, if_neg (by omega)]
  · intro x; rw [dlp, if_neg (by omega)]
  · intro x; rw [dlp, if_neg (by omega)]
  · rintro i ⟨l, w2, w3, w4, w5⟩ hi ⟨hl, a1, a2, a3, a4⟩
    dsimp only at hl a1 a2 a3 a4
    subst hl
    refine ok_u5 ?_
    rw [nI_1]
    refine ok_nle (by omega) (by omega) (ok_rd (b + i + 1) rfl (by omega) (by decide) (ok_wr (b + i) rfl (by omega) (by decide) (ok_rd (b + i + 1) rfl (by omega) (by decide) (ok_wr (b + i) rfl (by omega) (by decide) (ok_rd (b + i + 1) rfl (by omega) (by decide) (ok_wr (b + i) rfl (by omega) (by decide) (ok_rd (b + i + 1) rfl (by omega) (by decide) (ok_wr (b + i) rfl (by omega) (by decide) (ok_s ⟨rfl, dlp_s b i P w2 a1, dlp_s b i L w3 a2, dlp_s b i M w4 a3, dlp_s b i Y w5 a4⟩)))))))))
  · rintro ⟨l, w2, w3, w4, w5⟩ ⟨hl, ha⟩
    dsimp only at hl ha
    subst hl
    refine ok_u5 ?_
    rw [nI_1]
    exact ok_yle (by omega) (by omega) (ok_s ha)
  · rintro ⟨w6, w7, w8, w9⟩ ⟨a1, a2, a3, a4⟩
    refine ok_u4 (ok_s ⟨?_, fun x hx => ⟨?_, ?_, ?_, ?_⟩⟩)
    · dsimp only
      rw [iN_1, pk_sub (by omega)]
    · exact (a1 x).trans (dlp_e hb P x hx)
    · exact (a2 x).trans (dlp_e hb L x hx)
    · exact (a3 x).trans (dlp_e hb M x hx)
    · exact (a4 x).trans (dlp_e hb Y x hx)
theorem yr_dl {b n : Nat} {M Y : Nat → Int32} (hb : b < n) (h : yrOk n M Y) : yrOk (n - 1) (dl b M) (dl b Y) := fun x hx => by
  unfold dl
  by_cases q : x < b
  · rw [if_pos q, if_pos q]; exact h x (by omega)
  · rw [if_neg q, if_neg q]; exact h (x + 1) (by omega)
theorem lm_dl {b n : Nat} {L : Nat → Int32} (hb : b < n) (h : lmOk n L) : lmOk (n - 1) (dl b L) := fun x hx => by
  unfold dl
  by_cases q : x < b
  · rw [if_pos q]; exact h x (by omega)
  · rw [if_neg q]; exact h (x + 1) (by omega)
section Face2
variable {sN old hs kept c any rs th : Int32} {P L M Y hN now past bef beh fy ly aB aH tab : Nat → Int32} {hP hL hM hY : Nat → Nat → Int32} {out : Nat → Int64}
def ckV (v l cr : Int32) : Int32 := if cr = 0 then v &&& (((1 : Int32) <<< (l &&& 31)) ^^^ (-1)) else v ||| ((1 : Int32) <<< (l &&& 31))
theorem show_e {i : Nat} {l cr : Int32} {w : Nat → Int32} (hi : i < 10) : f_X2_show (nI i) l cr w = some (upd w i (ckV (w i) l cr)) := by
  have key : Ok (f_X2_show (nI i) l cr w) (fun r => r = upd w i (ckV (w i) l cr)) := by
    unfold f_X2_show ckV
    refine ok_jd (ok_if (fun q => ok_rd i rfl hi (by decide) (ok_u1 (ok_wr i rfl hi (by decide) (ok_s ?_)))) (fun q => ok_rd i rfl hi (by decide) (ok_u1 (ok_wr i rfl hi (by decide) (ok_s ?_)))))
    · rw [if_pos q]
    · rw [if_neg q]
  obtain ⟨r, h1, h2⟩ := key
  rw [h1, h2]
theorem ck_rg {v l cr : Int32} (hv : 0 ≤ v ∧ v ≤ 4095) (hl : 0 ≤ l ∧ l ≤ 11) : 0 ≤ ckV v l cr ∧ ckV v l cr ≤ 4095 := by
  obtain ⟨a, ha, rfl⟩ := w_cases 4095 hv.1 hv.2 (by decide)
  obtain ⟨k, hk, rfl⟩ := w_cases 11 hl.1 hl.2 (by decide)
  have hr : ∃ z, z ≤ 4095 ∧ ckV (nI a) (nI k) cr = nI z := by
    unfold ckV
    rw [iN_shl k (by omega)]
    by_cases q : cr = 0
    · rw [if_pos q, iN_m1, iN_xor, iN_and]
      exact ⟨_, Nat.le_trans Nat.and_le_left ha, rfl⟩
    · rw [if_neg q, iN_or]
      refine ⟨_, ?_, rfl⟩
      have : a ||| 2 ^ k < 2 ^ 12 := Nat.or_lt_two_pow (by omega) (Nat.pow_lt_pow_right (by decide) (by omega))
      omega
  obtain ⟨z, hz, e⟩ := hr
  rw [e]
  exact ⟨nI_pos' (by omega), nI_le (b := 4095) hz (by omega)⟩
end Face2
