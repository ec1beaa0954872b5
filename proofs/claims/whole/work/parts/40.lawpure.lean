/-! what the law's walk needs of the pure words -/
theorem in_x {x lo' hi' : Int32} {lo hi : Int64} {b : Bool} (h : inI x lo' hi' = b) (h1 : Int32.toInt64 lo' = lo) (h2 : Int32.toInt64 hi' = hi) : inL (Int32.toInt64 x) lo hi = b := by
  subst h1
  subst h2
  rw [inL_I]
  exact h
theorem in_nI {x lo hi : Int32} {a b : Nat} (h : inI x lo hi = true) (ha : lo = nI a) (hb : hi = nI b) (hab : a ≤ b) (hb2 : b < 2 ^ 31) : ∃ k : Nat, a ≤ k ∧ k ≤ b ∧ x = nI k := by
  simp only [inI, Bool.and_eq_true, decide_eq_true_eq] at h
  subst ha
  subst hb
  obtain ⟨j, hj, e⟩ : ∃ j : Nat, j < 2 ^ 31 ∧ x = nI j := nI_of (Int32.not_lt.mpr (Int32.le_trans (nI_pos' (n := a) (by omega)) h.1))
  subst e
  exact ⟨j, (nI_leI (by omega) hj).mp h.1, (nI_leI hj hb2).mp h.2, rfl⟩
theorem wk_ok {f : Nat → Int32} : ∀ (k p : Nat) (w : WS), p + k ≤ 60 → flt f k p false = -6 → OkS (wS w) → OkS (wS (wk f k p w).1) ∧ sbu (wS (wk f k p w).1) = sbu (wS w) := by
  intro k
  induction k using Nat.strongRecOn with
  | _ k ih =>
    intro p w hpk hfl hok
    cases k with
    | zero => exact ⟨hok, rfl⟩
    | succ k =>
      have hok2 : okS false (f p) = true := by
        cases h : okS false (f p) with
        | true => rfl
        | false => rw [flt_no h] at hfl; exact absurd hfl (nI_m6 (by omega))
      by_cases h46 : f p = 46
      · have hl : letB (f p) = false := by rw [h46]; rfl
        rw [flt_ok hok2, hl] at hfl
        by_cases hr : rsn (wS w) 5 0 0 = 0
        · rw [wk_n0 h46 hr]
          have h := ih k (by omega) (p + 1) (wkn w 5 0 0) (by omega) hfl (by rw [wkn_S]; exact prS_ok hok (by decide) (by decide) (fun h => absurd h (by decide)) hr)
          rw [wkn_S, prS_bu] at h
          exact h
        · rw [wk_n1 h46 hr]
          exact ⟨hok, rfl⟩
      · have hl : letB (f p) = true := by
          simp only [okS, cond_false, Bool.or_eq_true, decide_eq_true_eq] at hok2
          rcases hok2 with h | h
          · exact h
          · exact absurd h h46
        have hh := letB_h hl
        rw [flt_ok hok2, hl] at hfl
        cases k with
        | zero => exact absurd hfl (nI_m6 (by omega))
        | succ k =>
          have hok3 : okS true (f (p + 1)) = true := by
            cases h : okS true (f (p + 1)) with
            | true => rfl
            | false => rw [flt_no h] at hfl; exact absurd hfl (nI_m6 (by omega))
          have hl2 : letB (f (p + 1)) = false := deed_let hok3
          rw [flt_ok hok3, hl2] at hfl
          have hd : celB (f (p + 1)) = true ∨ (f (p + 1) = 43 ∨ (f (p + 1) = 45 ∨ (f (p + 1) = 42 ∨ f (p + 1) = 94))) := by simpa [okS, deedB] using hok3
          have hkd : kdN (f (p + 1)) ≤ 5 := by
            simp only [kdN]
            repeat' split
            all_goals omega
          have hc0 : kdN (f (p + 1)) = 0 → Bd 25 (f (p + 1) - 97) := by
            intro hk
            rcases hd with hd | hd | hd | hd | hd
            · exact celB_bd hd
            all_goals rw [hd] at hk; exact absurd hk (by decide)
          by_cases hr : rsn (wS w) (kdN (f (p + 1))) (hN (f p)) (f (p + 1) - 97) = 0
          · rw [wk_a0 h46 rfl rfl rfl hr]
            have h := ih k (by omega) (p + 2) (wkn w (kdN (f (p + 1))) (hN (f p)) (f (p + 1) - 97)) (by omega) hfl (by rw [wkn_S]; exact prS_ok hok hh.1 hkd hc0 hr)
            rw [wkn_S, prS_bu] at h
            exact h
          · rw [wk_a1 h46 rfl rfl rfl hr]
            exact ⟨hok, rfl⟩
theorem puS_ok {s : CS} (hs : OkS s) {h : Nat} (hh : h < 6) {c t u : Int32} (hc : Cv c) (ht : Bd 10 t) (hu : Bd 10 u) : OkS (puS s h c t u) := by
  obtain ⟨h1, h2, h3, h4, h5, h6, h7, h8, h9⟩ := hs
  refine ⟨fun j hj => ?_, upd_bd h2 ht, upd_bd h3 hu, h4, h5.off hh, h6.off hh, h7, h8, fun j hj => ⟨(upd_out hh hj).trans (h9 j hj).1, (upd_out hh hj).trans (h9 j hj).2.1, (upd_out hh hj).trans (h9 j hj).2.2⟩⟩
  show Cv (upd (sce s) h c j)
  simp only [upd]
  by_cases e : j = h
  · rw [if_pos e]; exact hc
  · rw [if_neg e]; exact h1 j hj
def setBu (s : CS) (v : Int32) : CS := mkS (sce s) (she s) (stu s) (skn s) (sdr s) (swa s) v (sni s)
theorem setBu_ok {s : CS} (hs : OkS s) {v : Int32} (hv : Bd 7 v) : OkS (setBu s v) := by
  obtain ⟨h1, h2, h3, h4, h5, h6, h7, h8, h9⟩ := hs
  exact ⟨h1, h2, h3, h4, h5, h6, hv, h8, h9⟩
def s00 : CS := mkS (fl (-6) 6) (fun _ => 0) (fl 5 6) 0 0 0 2 0
def z00 : CS := mkS (fun _ => 0) (fun _ => 0) (fun _ => 0) 0 0 0 0 0
theorem s00_ok : OkS s00 := by
  refine ⟨fun h hh => ?_, fun h hh => ⟨0, by decide, rfl⟩, fun h hh => ⟨5, by decide, ?_⟩, ⟨0, by decide, rfl⟩, ⟨0, by decide, rfl⟩, ⟨0, by decide, rfl⟩, ⟨2, by decide, rfl⟩, ⟨0, by decide, rfl⟩, fun j hj => ⟨?_, rfl, ?_⟩⟩
  · show Cv (fl (-6) 6 h)
    rw [fl, if_pos hh]
    exact Or.inl rfl
  · show fl 5 6 h = _
    rw [fl, if_pos hh]
    rfl
  · show fl (-6) 6 j = 0
    rw [fl, if_neg (by omega)]
  · show fl 5 6 j = 0
    rw [fl, if_neg (by omega)]
theorem bk_00 : bki 6 = bkF s00 := by
  funext j
  simp only [bki, bkF]
  show _ = if j < 6 then (0 : Int32) else if j < 12 then fl 5 6 (j - 6) else if j < 18 then fl (-6) 6 (j - 12) else if j = 18 then 0 else if j = 19 then 0 else if j = 20 then 0 else if j = 21 then 0 else 0
  simp only [fl]
  repeat' split
  all_goals first | rfl | omega
theorem bk_z : (fun _ => (0 : Int32)) = bkF z00 := by
  funext j
  simp only [bkF]
  show (0 : Int32) = if j < 6 then (0 : Int32) else if j < 12 then 0 else if j < 18 then 0 else if j = 18 then 0 else if j = 19 then 0 else if j = 20 then 0 else if j = 21 then 0 else 0
  repeat' split
  all_goals rfl
theorem sg_z : (fun _ => (0 : Int32)) = sgF (fun _ => 0) (fun _ => 0) := by
  funext j
  simp only [sgF]
  repeat' split
  all_goals rfl
theorem img_z : (fun _ => (0 : Int32)) = imgF (fun _ => 0) (fun _ => 0) := by
  funext j
  simp only [imgF]
  repeat' split
  all_goals rfl
theorem kp_z : (fun _ => (0 : Int32)) = kpF false false := by
  funext j
  simp only [kpF]
  repeat' split
  all_goals rfl
/-! digits -/
theorem rm10_neg {x : Int32} (h : x ≤ 0) : rmI x 10 ≤ 0 := by
  have h0 : x.toInt ≤ 0 := Int32.le_iff_toInt_le.mp h
  have h1 : -2147483648 ≤ x.toInt := x.minValue_le_toInt
  have e10 : (10 : Int32).toInt = 10 := by decide
  have ed : (x / 10).toInt = x.toInt.tdiv 10 := by
    rw [Int32.toInt_div, e10]
    apply Int.bmod_eq_of_le
    · have := Int.neg_tdiv (-x.toInt) 10
      rw [Int.neg_neg] at this
      rw [this, Int.tdiv_eq_ediv_of_nonneg (by omega)]
      omega
    · have := Int.neg_tdiv (-x.toInt) 10
      rw [Int.neg_neg] at this
      rw [this, Int.tdiv_eq_ediv_of_nonneg (by omega)]
      omega
  have et : x.toInt.tdiv 10 = -((-x.toInt) / 10) := by
    have := Int.neg_tdiv (-x.toInt) 10
    rw [Int.neg_neg] at this
    rw [this, Int.tdiv_eq_ediv_of_nonneg (by omega)]
  have em : (x / 10 * 10).toInt = -((-x.toInt) / 10) * 10 := by
    rw [Int32.toInt_mul, ed, et, e10]
    exact Int.bmod_eq_of_le (by omega) (by omega)
  rw [Int32.le_iff_toInt_le]
  show (x - x / 10 * 10).toInt ≤ 0
  rw [Int32.toInt_sub, em, Int.bmod_eq_of_le (by omega) (by omega)]
  omega
theorem rn_neg {m : Nat} {x : Int32} {f : Nat → Int32} (h : x ≤ 0) : (rn (m + 1) x f).1 = false := by
  rw [rn, if_pos (rm10_neg h)]
theorem rn_hi : ∀ (n : Nat) (x : Int32) (f : Nat → Int32) (j : Nat), n ≤ j → (rn n x f).2 j = f j
  | 0, _, _, _, _ => rfl
  | m + 1, x, f, j, hj => by
    rw [rn]
    by_cases h : rmI x 10 ≤ 0
    · rw [if_pos h]
    · rw [if_neg h, rn_hi m _ _ j (by omega), upd_ne (by omega)]
theorem rn_1 : ∀ (n : Nat) (x : Int32) (f g : Nat → Int32), (rn n x f).1 = (rn n x g).1
  | 0, _, _, _ => rfl
  | m + 1, x, f, g => by
    rw [rn, rn]
    by_cases h : rmI x 10 ≤ 0
    · rw [if_pos h, if_pos h]
    · rw [if_neg h, if_neg h]
      exact rn_1 m _ _ _
theorem rn_d : ∀ (n : Nat) (x : Int32) (f : Nat → Int32), (rn n x f).1 = true → ∀ j, j < n → ∃ d : Nat, d ≤ 9 ∧ ∀ g, (rn n x g).2 j = nI d
  | 0, _, _, _, j, hj => absurd hj (Nat.not_lt_zero j)
  | m + 1, x, f, h, j, hj => by
    have hr : ¬ rmI x 10 ≤ 0 := fun e => by rw [rn, if_pos e] at h; cases h
    rw [rn, if_neg hr] at h
    by_cases e : j = m
    · subst e
      have hx : ¬ x ≤ 0 := fun e => hr (rm10_neg e)
      obtain ⟨k, hk, rfl⟩ := nI_of (x := x) (Int32.not_lt.mpr (Int32.le_of_lt (Int32.not_le.mp hx)))
      refine ⟨k % 10, by omega, fun g => ?_⟩
      rw [rn, if_neg hr, rn_hi _ _ _ _ (Nat.le_refl _), upd_eq]
      exact nI_r (d := 10) hk (by decide) (by decide)
    · obtain ⟨d, hd, hg⟩ := rn_d m _ _ h j (by omega)
      refine ⟨d, hd, fun g => ?_⟩
      rw [rn, if_neg hr]
      exact hg _
theorem rm100 {z : Int64} (h : 0 ≤ z) : 0 ≤ z / 100 ∧ ∃ d : Nat, d ≤ 99 ∧ Int64.toInt32 (rmL z 100) = nI d := by
  have h0 : 0 ≤ z.toInt := Int64.le_iff_toInt_le.mp h
  have h1 : z.toInt ≤ 9223372036854775807 := z.toInt_le
  have e10 : (100 : Int64).toInt = 100 := by decide
  have ed : (z / 100).toInt = z.toInt / 100 := by
    rw [Int64.toInt_div, e10, Int.tdiv_eq_ediv_of_nonneg h0]
    exact Int.bmod_eq_of_le (by omega) (by omega)
  have em : (z / 100 * 100).toInt = z.toInt / 100 * 100 := by
    rw [Int64.toInt_mul, ed, e10]
    exact Int.bmod_eq_of_le (by omega) (by omega)
  have es : (rmL z 100).toInt = z.toInt % 100 := by
    show (z - z / 100 * 100).toInt = _
    rw [Int64.toInt_sub, em, Int.bmod_eq_of_le (by omega) (by omega)]
    omega
  refine ⟨?_, (z.toInt % 100).toNat, by omega, ?_⟩
  · rw [Int64.le_iff_toInt_le, ed]
    show (0 : Int) ≤ _
    omega
  · have e2 : rmL z 100 = lN (z.toInt % 100).toNat := by
      apply Int64.toInt_inj.mp
      rw [es, lN_toInt (by omega)]
      omega
    rw [e2]
    exact lN_i _
theorem rd_hi : ∀ (n : Nat) (z : Int64) (f : Nat → Int32) (j : Nat), n ≤ j → (rd n z f).2 j = f j
  | 0, _, _, _, _ => rfl
  | m + 1, z, f, j, hj => by
    rw [rd, rd_hi m _ _ j (by omega), upd_ne (by omega)]
theorem rd_1 : ∀ (n : Nat) (z : Int64) (f g : Nat → Int32), (rd n z f).1 = (rd n z g).1
  | 0, _, _, _ => rfl
  | m + 1, z, f, g => by
    rw [rd, rd]
    exact rd_1 m _ _ _
theorem rd_d : ∀ (n : Nat) (z : Int64), 0 ≤ z → ∀ j, j < n → ∃ d : Nat, d ≤ 99 ∧ ∀ g, (rd n z g).2 j = nI d
  | 0, _, _, j, hj => absurd hj (Nat.not_lt_zero j)
  | m + 1, z, hz, j, hj => by
    obtain ⟨h1, d, hd, e⟩ := rm100 hz
    by_cases ej : j = m
    · subst ej
      refine ⟨d, hd, fun g => ?_⟩
      rw [rd, rd_hi _ _ _ _ (Nat.le_refl _), upd_eq]
      exact e
    · obtain ⟨d, hd, hg⟩ := rd_d m _ h1 j (by omega)
      refine ⟨d, hd, fun g => ?_⟩
      rw [rd]
      exact hg _
/-- a row of digits, chosen -/
theorem pickN {P : Nat → Nat → Prop} {n : Nat} (h : ∀ j, j < n → ∃ d, P j d) : ∃ v : Nat → Nat, ∀ j, j < n → P j (v j) := by
  refine ⟨fun j => if hj : j < n then Classical.choose (h j hj) else 0, fun j hj => ?_⟩
  show P j (if hj : j < n then Classical.choose (h j hj) else 0)
  rw [dif_pos hj]
  exact Classical.choose_spec (h j hj)
