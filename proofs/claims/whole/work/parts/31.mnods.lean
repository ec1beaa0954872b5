/-! nights asleep, the reference's way -/
def fsF (j i : Nat) : Int32 := if i ≤ j then -6 else nI (j + 1)
theorem fs_le {j i : Nat} (h : i ≤ j) : fsF j i = -6 := if_pos h
theorem fs_gt {j i : Nat} (h : j < i) : fsF j i = nI (j + 1) := if_neg (by omega)
theorem fs_f {p : Nat → Bool} {j i : Nat} (hpj : p j = true) (hp : p i = false) : fsF j i = fsF j (i + 1) := by
  by_cases h : i < j
  · rw [fs_le (by omega), fs_le (by omega)]
  · by_cases e : i = j
    · subst e; rw [hpj] at hp; exact absurd hp (by decide)
    · rw [fs_gt (by omega), fs_gt (by omega)]
theorem fs_g {j i : Nat} (h : 0 ≤ fsF j i) : fsF j i = fsF j (i + 1) := by
  by_cases e : i ≤ j
  · rw [fs_le e] at h; exact absurd h (by decide)
  · rw [fs_gt (by omega), fs_gt (by omega)]
theorem fs_t {p : Nat → Bool} {j i : Nat} (hj : j < 1000) (hno : ∀ i, i < j → p i = false) (hp : p i = true) (h : ¬ 0 ≤ fsF j i) : nI (i + 1) = fsF j (i + 1) := by
  by_cases e : i ≤ j
  · by_cases e2 : i = j
    · subst e2; rw [fs_gt (by omega)]
    · rw [hno i (by omega)] at hp; exact absurd hp (by decide)
  · rw [fs_gt (by omega)] at h; exact absurd (nI_le (a := 0) (Nat.zero_le _) (by omega)) h
theorem cm_f {p : Nat → Bool} {i n : Nat} (hp : p i = false) : nI (cntS p (min i n)) + 0 = nI (cntS p (min (i + 1) n)) := by
  rw [Int32.add_zero]
  by_cases h : i < n
  · rw [Nat.min_eq_left (by omega), Nat.min_eq_left (by omega), cntS_f hp]
  · rw [Nat.min_eq_right (by omega), Nat.min_eq_right (by omega)]
theorem cm_g {p : Nat → Bool} {i n : Nat} (h : n ≤ i) : nI (cntS p (min i n)) + 0 = nI (cntS p (min (i + 1) n)) := by
  rw [Int32.add_zero, Nat.min_eq_right (by omega), Nat.min_eq_right (by omega)]
theorem cm_t {p : Nat → Bool} {i n : Nat} (hp : p i = true) (h : i < n) : nI (cntS p (min i n)) + 1 = nI (cntS p (min (i + 1) n)) := by
  rw [Nat.min_eq_left (by omega), Nat.min_eq_left (by omega), cntS_t hp]; exact nI_1 _
theorem cntS_add {p : Nat → Bool} {P : Nat} (h : ∀ k, p (P + k) = p k) : ∀ m, cntS p (P + m) = cntS p P + cntS p m
  | 0 => rfl
  | m + 1 => by
    rw [show P + (m + 1) = P + m + 1 from rfl, cntS, cntS_add h m, h m, cntS]
    omega
theorem cntS_mul {p : Nat → Bool} {P : Nat} (h : ∀ k, p (P + k) = p k) (r : Nat) : ∀ q, cntS p (q * P + r) = q * cntS p P + cntS p r
  | 0 => by rw [Nat.zero_mul, Nat.zero_mul, Nat.zero_add, Nat.zero_add]
  | q + 1 => by
    rw [show (q + 1) * P + r = P + (q * P + r) by rw [Nat.succ_mul]; omega, cntS_add h, cntS_mul h r q, Nat.succ_mul]
    omega
theorem cntS_per {p : Nat → Bool} {P : Nat} (h : ∀ k, p (P + k) = p k) (n : Nat) : cntS p n = n / P * cntS p P + cntS p (n % P) := by
  rw [← cntS_mul h (n % P) (n / P), Nat.mul_comm, Nat.div_add_mod]
theorem slp_per (a b m k : Nat) : slp a b ((a + b) * m + k) = slp a b k := by
  unfold slp; rw [Nat.mul_add_mod]
theorem bth_per {a b c d P : Nat} (hP : (a + b) * (c + d) = P) (k : Nat) : bth a b c d (P + k) = bth a b c d k := by
  unfold bth
  rw [← hP, slp_per, Nat.mul_comm, slp_per]
theorem bth_last {a b c d P : Nat} (hP : (a + b) * (c + d) = P) (ha : 1 ≤ b) (hd : 1 ≤ d) : bth a b c d (P - 1) = true := by
  have key : ∀ a b m : Nat, 1 ≤ b → 1 ≤ m → slp a b ((a + b) * m - 1) = true := fun a b m hb hm => by
    obtain ⟨m, rfl⟩ : ∃ t, m = t + 1 := ⟨m - 1, by omega⟩
    unfold slp
    rw [show (a + b) * (m + 1) - 1 = (a + b) * m + (a + b - 1) by rw [Nat.mul_succ]; omega, Nat.mul_add_mod, Nat.mod_eq_of_lt (by omega)]
    exact decide_eq_true (by omega)
  unfold bth
  rw [← hP, key a b (c + d) ha (by omega), Nat.mul_comm, key c d (a + b) hd (by omega)]
  rfl
theorem first_of {p : Nat → Bool} : ∀ n, p n = true → ∃ j, j ≤ n ∧ p j = true ∧ ∀ i, i < j → p i = false := by
  intro n
  induction n using Nat.strongRecOn with
  | _ n ih =>
    intro h
    by_cases e : ∃ i, i < n ∧ p i = true
    · obtain ⟨i, hi, hp⟩ := e
      obtain ⟨j, hj, r⟩ := ih i hi hp
      exact ⟨j, by omega, r⟩
    · refine ⟨n, Nat.le_refl _, h, fun i hi => ?_⟩
      cases hp : p i with
      | false => rfl
      | true => exact absurd ⟨i, hi, hp⟩ e

set_option maxHeartbeats 4000000 in
set_option maxRecDepth 20000 in
theorem m_nods_o0 (d : Nat) (bu fl fa fw fr rs ac : Int32) (q pn : Nat) (x1 x2 x3 x4 x5 x6 : Int32) (h0 : inI x1 1 9 = false) : FC YX7_nods (d + 1) [.ref 38, .int x1, .int x2, .int x3, .int x4, .int x5, .int x6, .null, .null, .null, .null] [(38, .inr (7, [.ref 39, .ref 40, .int bu, .int (nI q), .ref 41, .int (nI pn), .ref 42, .int fl, .int fa, .int fw, .int fr, .int rs, .int ac, .ref 43, .ref 44, .ref 45, .ref 46, .ref 47, .ref 48, .ref 49]))] (some (.int (-2))) [(38, .inr (7, [.ref 39, .ref 40, .int bu, .int (nI q), .ref 41, .int (nI pn), .ref 42, .int fl, .int fa, .int fw, .int fr, .int rs, .int ac, .ref 43, .ref 44, .ref 45, .ref 46, .ref 47, .ref 48, .ref 49]))] := by
  intro hp
  refine E_iload_n dX7_nods_0 rfl ?_
  refine E_iconst (v := 1) dX7_nods_1 (by decide) ?_
  refine E_bipush (v := 9) dX7_nods_2 (by decide) ?_
  refine E_callS (As := [.int x1, .int 1, .int 9]) (l' := [.int x1, .int 1, .int 9]) (st := []) dX7_nods_4 kX7_48 sX7_in MX7_in rfl rfl (Nat.le_of_ble_eq_true rfl) (FC.use (c_in d _ _ _) rfl (L2 := [(38, .inr (7, [.ref 39, .ref 40, .int bu, .int (nI q), .ref 41, .int (nI pn), .ref 42, .int fl, .int fa, .int fw, .int fr, .int rs, .int ac, .ref 43, .ref 44, .ref 45, .ref 46, .ref 47, .ref 48, .ref 49]))]) rfl) (Nat.le_of_ble_eq_true rfl) (fun _ _ hq9 => E_fgo ?_ hq9)
  show E _ _ 7 [.ref 38, .int x1, .int x2, .int x3, .int x4, .int x5, .int x6, .null, .null, .null, .null] [.int (b2i (inI x1 1 9))] (hov hp [(38, .inr (7, [.ref 39, .ref 40, .int bu, .int (nI q), .ref 41, .int (nI pn), .ref 42, .int fl, .int fa, .int fw, .int fr, .int rs, .int ac, .ref 43, .ref 44, .ref 45, .ref 46, .ref 47, .ref 48, .ref 49]))]) _
  refine E_if_eq (tgt := 63) dX7_nods_7 (by decide) (fun _ => ?_) (fun c => (b2i_x0 h0 c).elim)
  refine E_bipush (v := (-2)) dX7_nods_63 (by decide) ?_
  exact E_iretf dX7_nods_65 rfl rfl rfl rfl

set_option maxHeartbeats 4000000 in
set_option maxRecDepth 20000 in
theorem m_nods_o1 (d : Nat) (bu fl fa fw fr rs ac : Int32) (q pn : Nat) (x1 x2 x3 x4 x5 x6 : Int32) (h0 : inI x1 1 9 = true) (h1 : inI x2 1 9 = false) : FC YX7_nods (d + 1) [.ref 38, .int x1, .int x2, .int x3, .int x4, .int x5, .int x6, .null, .null, .null, .null] [(38, .inr (7, [.ref 39, .ref 40, .int bu, .int (nI q), .ref 41, .int (nI pn), .ref 42, .int fl, .int fa, .int fw, .int fr, .int rs, .int ac, .ref 43, .ref 44, .ref 45, .ref 46, .ref 47, .ref 48, .ref 49]))] (some (.int (-2))) [(38, .inr (7, [.ref 39, .ref 40, .int bu, .int (nI q), .ref 41, .int (nI pn), .ref 42, .int fl, .int fa, .int fw, .int fr, .int rs, .int ac, .ref 43, .ref 44, .ref 45, .ref 46, .ref 47, .ref 48, .ref 49]))] := by
  intro hp
  refine E_iload_n dX7_nods_0 rfl ?_
  refine E_iconst (v := 1) dX7_nods_1 (by decide) ?_
  refine E_bipush (v := 9) dX7_nods_2 (by decide) ?_
  refine E_callS (As := [.int x1, .int 1, .int 9]) (l' := [.int x1, .int 1, .int 9]) (st := []) dX7_nods_4 kX7_48 sX7_in MX7_in rfl rfl (Nat.le_of_ble_eq_true rfl) (FC.use (c_in d _ _ _) rfl (L2 := [(38, .inr (7, [.ref 39, .ref 40, .int bu, .int (nI q), .ref 41, .int (nI pn), .ref 42, .int fl, .int fa, .int fw, .int fr, .int rs, .int ac, .ref 43, .ref 44, .ref 45, .ref 46, .ref 47, .ref 48, .ref 49]))]) rfl) (Nat.le_of_ble_eq_true rfl) (fun _ _ hq9 => E_fgo ?_ hq9)
  show E _ _ 7 [.ref 38, .int x1, .int x2, .int x3, .int x4, .int x5, .int x6, .null, .null, .null, .null] [.int (b2i (inI x1 1 9))] (hov hp [(38, .inr (7, [.ref 39, .ref 40, .int bu, .int (nI q), .ref 41, .int (nI pn), .ref 42, .int fl, .int fa, .int fw, .int fr, .int rs, .int ac, .ref 43, .ref 44, .ref 45, .ref 46, .ref 47, .ref 48, .ref 49]))]) _
  refine E_if_eq (tgt := 63) dX7_nods_7 (by decide) (fun c => (b2i_x1 h0 c).elim) (fun _ => ?_)
  refine E_iload_n dX7_nods_10 rfl ?_
  refine E_iconst (v := 1) dX7_nods_11 (by decide) ?_
  refine E_bipush (v := 9) dX7_nods_12 (by decide) ?_
  refine E_callS (As := [.int x2, .int 1, .int 9]) (l' := [.int x2, .int 1, .int 9]) (st := []) dX7_nods_14 kX7_48 sX7_in MX7_in rfl rfl (Nat.le_of_ble_eq_true rfl) (FC.use (c_in d _ _ _) rfl (L2 := [(38, .inr (7, [.ref 39, .ref 40, .int bu, .int (nI q), .ref 41, .int (nI pn), .ref 42, .int fl, .int fa, .int fw, .int fr, .int rs, .int ac, .ref 43, .ref 44, .ref 45, .ref 46, .ref 47, .ref 48, .ref 49]))]) rfl) (Nat.le_of_ble_eq_true rfl) (fun _ _ hq9 => E_fgo ?_ hq9)
  show E _ _ 17 [.ref 38, .int x1, .int x2, .int x3, .int x4, .int x5, .int x6, .null, .null, .null, .null] [.int (b2i (inI x2 1 9))] (hov hp [(38, .inr (7, [.ref 39, .ref 40, .int bu, .int (nI q), .ref 41, .int (nI pn), .ref 42, .int fl, .int fa, .int fw, .int fr, .int rs, .int ac, .ref 43, .ref 44, .ref 45, .ref 46, .ref 47, .ref 48, .ref 49]))]) _
  refine E_if_eq (tgt := 63) dX7_nods_17 (by decide) (fun _ => ?_) (fun c => (b2i_x0 h1 c).elim)
  refine E_bipush (v := (-2)) dX7_nods_63 (by decide) ?_
  exact E_iretf dX7_nods_65 rfl rfl rfl rfl

set_option maxHeartbeats 4000000 in
set_option maxRecDepth 20000 in
theorem m_nods_o2 (d : Nat) (bu fl fa fw fr rs ac : Int32) (q pn : Nat) (x1 x2 x3 x4 x5 x6 : Int32) (h0 : inI x1 1 9 = true) (h1 : inI x2 1 9 = true) (h2 : inI x3 1 9 = false) : FC YX7_nods (d + 1) [.ref 38, .int x1, .int x2, .int x3, .int x4, .int x5, .int x6, .null, .null, .null, .null] [(38, .inr (7, [.ref 39, .ref 40, .int bu, .int (nI q), .ref 41, .int (nI pn), .ref 42, .int fl, .int fa, .int fw, .int fr, .int rs, .int ac, .ref 43, .ref 44, .ref 45, .ref 46, .ref 47, .ref 48, .ref 49]))] (some (.int (-2))) [(38, .inr (7, [.ref 39, .ref 40, .int bu, .int (nI q), .ref 41, .int (nI pn), .ref 42, .int fl, .int fa, .int fw, .int fr, .int rs, .int ac, .ref 43, .ref 44, .ref 45, .ref 46, .ref 47, .ref 48, .ref 49]))] := by
  intro hp
  refine E_iload_n dX7_nods_0 rfl ?_
  refine E_iconst (v := 1) dX7_nods_1 (by decide) ?_
  refine E_bipush (v := 9) dX7_nods_2 (by decide) ?_
  refine E_callS (As := [.int x1, .int 1, .int 9]) (l' := [.int x1, .int 1, .int 9]) (st := []) dX7_nods_4 kX7_48 sX7_in MX7_in rfl rfl (Nat.le_of_ble_eq_true rfl) (FC.use (c_in d _ _ _) rfl (L2 := [(38, .inr (7, [.ref 39, .ref 40, .int bu, .int (nI q), .ref 41, .int (nI pn), .ref 42, .int fl, .int fa, .int fw, .int fr, .int rs, .int ac, .ref 43, .ref 44, .ref 45, .ref 46, .ref 47, .ref 48, .ref 49]))]) rfl) (Nat.le_of_ble_eq_true rfl) (fun _ _ hq9 => E_fgo ?_ hq9)
  show E _ _ 7 [.ref 38, .int x1, .int x2, .int x3, .int x4, .int x5, .int x6, .null, .null, .null, .null] [.int (b2i (inI x1 1 9))] (hov hp [(38, .inr (7, [.ref 39, .ref 40, .int bu, .int (nI q), .ref 41, .int (nI pn), .ref 42, .int fl, .int fa, .int fw, .int fr, .int rs, .int ac, .ref 43, .ref 44, .ref 45, .ref 46, .ref 47, .ref 48, .ref 49]))]) _
  refine E_if_eq (tgt := 63) dX7_nods_7 (by decide) (fun c => (b2i_x1 h0 c).elim) (fun _ => ?_)
  refine E_iload_n dX7_nods_10 rfl ?_
  refine E_iconst (v := 1) dX7_nods_11 (by decide) ?_
  refine E_bipush (v := 9) dX7_nods_12 (by decide) ?_
  refine E_callS (As := [.int x2, .int 1, .int 9]) (l' := [.int x2, .int 1, .int 9]) (st := []) dX7_nods_14 kX7_48 sX7_in MX7_in rfl rfl (Nat.le_of_ble_eq_true rfl) (FC.use (c_in d _ _ _) rfl (L2 := [(38, .inr (7, [.ref 39, .ref 40, .int bu, .int (nI q), .ref 41, .int (nI pn), .ref 42, .int fl, .int fa, .int fw, .int fr, .int rs, .int ac, .ref 43, .ref 44, .ref 45, .ref 46, .ref 47, .ref 48, .ref 49]))]) rfl) (Nat.le_of_ble_eq_true rfl) (fun _ _ hq9 => E_fgo ?_ hq9)
  show E _ _ 17 [.ref 38, .int x1, .int x2, .int x3, .int x4, .int x5, .int x6, .null, .null, .null, .null] [.int (b2i (inI x2 1 9))] (hov hp [(38, .inr (7, [.ref 39, .ref 40, .int bu, .int (nI q), .ref 41, .int (nI pn), .ref 42, .int fl, .int fa, .int fw, .int fr, .int rs, .int ac, .ref 43, .ref 44, .ref 45, .ref 46, .ref 47, .ref 48, .ref 49]))]) _
  refine E_if_eq (tgt := 63) dX7_nods_17 (by decide) (fun c => (b2i_x1 h1 c).elim) (fun _ => ?_)
  refine E_iload_n dX7_nods_20 rfl ?_
  refine E_iconst (v := 1) dX7_nods_21 (by decide) ?_
  refine E_bipush (v := 9) dX7_nods_22 (by decide) ?_
  refine E_callS (As := [.int x3, .int 1, .int 9]) (l' := [.int x3, .int 1, .int 9]) (st := []) dX7_nods_24 kX7_48 sX7_in MX7_in rfl rfl (Nat.le_of_ble_eq_true rfl) (FC.use (c_in d _ _ _) rfl (L2 := [(38, .inr (7, [.ref 39, .ref 40, .int bu, .int (nI q), .ref 41, .int (nI pn), .ref 42, .int fl, .int fa, .int fw, .int fr, .int rs, .int ac, .ref 43, .ref 44, .ref 45, .ref 46, .ref 47, .ref 48, .ref 49]))]) rfl) (Nat.le_of_ble_eq_true rfl) (fun _ _ hq9 => E_fgo ?_ hq9)
  show E _ _ 27 [.ref 38, .int x1, .int x2, .int x3, .int x4, .int x5, .int x6, .null, .null, .null, .null] [.int (b2i (inI x3 1 9))] (hov hp [(38, .inr (7, [.ref 39, .ref 40, .int bu, .int (nI q), .ref 41, .int (nI pn), .ref 42, .int fl, .int fa, .int fw, .int fr, .int rs, .int ac, .ref 43, .ref 44, .ref 45, .ref 46, .ref 47, .ref 48, .ref 49]))]) _
  refine E_if_eq (tgt := 63) dX7_nods_27 (by decide) (fun _ => ?_) (fun c => (b2i_x0 h2 c).elim)
  refine E_bipush (v := (-2)) dX7_nods_63 (by decide) ?_
  exact E_iretf dX7_nods_65 rfl rfl rfl rfl

set_option maxHeartbeats 4000000 in
set_option maxRecDepth 20000 in
theorem m_nods_o3 (d : Nat) (bu fl fa fw fr rs ac : Int32) (q pn : Nat) (x1 x2 x3 x4 x5 x6 : Int32) (h0 : inI x1 1 9 = true) (h1 : inI x2 1 9 = true) (h2 : inI x3 1 9 = true) (h3 : inI x4 1 9 = false) : FC YX7_nods (d + 1) [.ref 38, .int x1, .int x2, .int x3, .int x4, .int x5, .int x6, .null, .null, .null, .null] [(38, .inr (7, [.ref 39, .ref 40, .int bu, .int (nI q), .ref 41, .int (nI pn), .ref 42, .int fl, .int fa, .int fw, .int fr, .int rs, .int ac, .ref 43, .ref 44, .ref 45, .ref 46, .ref 47, .ref 48, .ref 49]))] (some (.int (-2))) [(38, .inr (7, [.ref 39, .ref 40, .int bu, .int (nI q), .ref 41, .int (nI pn), .ref 42, .int fl, .int fa, .int fw, .int fr, .int rs, .int ac, .ref 43, .ref 44, .ref 45, .ref 46, .ref 47, .ref 48, .ref 49]))] := by
  intro hp
  refine E_iload_n dX7_nods_0 rfl ?_
  refine E_iconst (v := 1) dX7_nods_1 (by decide) ?_
  refine E_bipush (v := 9) dX7_nods_2 (by decide) ?_
  refine E_callS (As := [.int x1, .int 1, .int 9]) (l' := [.int x1, .int 1, .int 9]) (st := []) dX7_nods_4 kX7_48 sX7_in MX7_in rfl rfl (Nat.le_of_ble_eq_true rfl) (FC.use (c_in d _ _ _) rfl (L2 := [(38, .inr (7, [.ref 39, .ref 40, .int bu, .int (nI q), .ref 41, .int (nI pn), .ref 42, .int fl, .int fa, .int fw, .int fr, .int rs, .int ac, .ref 43, .ref 44, .ref 45, .ref 46, .ref 47, .ref 48, .ref 49]))]) rfl) (Nat.le_of_ble_eq_true rfl) (fun _ _ hq9 => E_fgo ?_ hq9)
  show E _ _ 7 [.ref 38, .int x1, .int x2, .int x3, .int x4, .int x5, .int x6, .null, .null, .null, .null] [.int (b2i (inI x1 1 9))] (hov hp [(38, .inr (7, [.ref 39, .ref 40, .int bu, .int (nI q), .ref 41, .int (nI pn), .ref 42, .int fl, .int fa, .int fw, .int fr, .int rs, .int ac, .ref 43, .ref 44, .ref 45, .ref 46, .ref 47, .ref 48, .ref 49]))]) _
  refine E_if_eq (tgt := 63) dX7_nods_7 (by decide) (fun c => (b2i_x1 h0 c).elim) (fun _ => ?_)
  refine E_iload_n dX7_nods_10 rfl ?_
  refine E_iconst (v := 1) dX7_nods_11 (by decide) ?_
  refine E_bipush (v := 9) dX7_nods_12 (by decide) ?_
  refine E_callS (As := [.int x2, .int 1, .int 9]) (l' := [.int x2, .int 1, .int 9]) (st := []) dX7_nods_14 kX7_48 sX7_in MX7_in rfl rfl (Nat.le_of_ble_eq_true rfl) (FC.use (c_in d _ _ _) rfl (L2 := [(38, .inr (7, [.ref 39, .ref 40, .int bu, .int (nI q), .ref 41, .int (nI pn), .ref 42, .int fl, .int fa, .int fw, .int fr, .int rs, .int ac, .ref 43, .ref 44, .ref 45, .ref 46, .ref 47, .ref 48, .ref 49]))]) rfl) (Nat.le_of_ble_eq_true rfl) (fun _ _ hq9 => E_fgo ?_ hq9)
  show E _ _ 17 [.ref 38, .int x1, .int x2, .int x3, .int x4, .int x5, .int x6, .null, .null, .null, .null] [.int (b2i (inI x2 1 9))] (hov hp [(38, .inr (7, [.ref 39, .ref 40, .int bu, .int (nI q), .ref 41, .int (nI pn), .ref 42, .int fl, .int fa, .int fw, .int fr, .int rs, .int ac, .ref 43, .ref 44, .ref 45, .ref 46, .ref 47, .ref 48, .ref 49]))]) _
  refine E_if_eq (tgt := 63) dX7_nods_17 (by decide) (fun c => (b2i_x1 h1 c).elim) (fun _ => ?_)
  refine E_iload_n dX7_nods_20 rfl ?_
  refine E_iconst (v := 1) dX7_nods_21 (by decide) ?_
  refine E_bipush (v := 9) dX7_nods_22 (by decide) ?_
  refine E_callS (As := [.int x3, .int 1, .int 9]) (l' := [.int x3, .int 1, .int 9]) (st := []) dX7_nods_24 kX7_48 sX7_in MX7_in rfl rfl (Nat.le_of_ble_eq_true rfl) (FC.use (c_in d _ _ _) rfl (L2 := [(38, .inr (7, [.ref 39, .ref 40, .int bu, .int (nI q), .ref 41, .int (nI pn), .ref 42, .int fl, .int fa, .int fw, .int fr, .int rs, .int ac, .ref 43, .ref 44, .ref 45, .ref 46, .ref 47, .ref 48, .ref 49]))]) rfl) (Nat.le_of_ble_eq_true rfl) (fun _ _ hq9 => E_fgo ?_ hq9)
  show E _ _ 27 [.ref 38, .int x1, .int x2, .int x3, .int x4, .int x5, .int x6, .null, .null, .null, .null] [.int (b2i (inI x3 1 9))] (hov hp [(38, .inr (7, [.ref 39, .ref 40, .int bu, .int (nI q), .ref 41, .int (nI pn), .ref 42, .int fl, .int fa, .int fw, .int fr, .int rs, .int ac, .ref 43, .ref 44, .ref 45, .ref 46, .ref 47, .ref 48, .ref 49]))]) _
  refine E_if_eq (tgt := 63) dX7_nods_27 (by decide) (fun c => (b2i_x1 h2 c).elim) (fun _ => ?_)
  refine E_iload dX7_nods_30 rfl ?_
  refine E_iconst (v := 1) dX7_nods_32 (by decide) ?_
  refine E_bipush (v := 9) dX7_nods_33 (by decide) ?_
  refine E_callS (As := [.int x4, .int 1, .int 9]) (l' := [.int x4, .int 1, .int 9]) (st := []) dX7_nods_35 kX7_48 sX7_in MX7_in rfl rfl (Nat.le_of_ble_eq_true rfl) (FC.use (c_in d _ _ _) rfl (L2 := [(38, .inr (7, [.ref 39, .ref 40, .int bu, .int (nI q), .ref 41, .int (nI pn), .ref 42, .int fl, .int fa, .int fw, .int fr, .int rs, .int ac, .ref 43, .ref 44, .ref 45, .ref 46, .ref 47, .ref 48, .ref 49]))]) rfl) (Nat.le_of_ble_eq_true rfl) (fun _ _ hq9 => E_fgo ?_ hq9)
  show E _ _ 38 [.ref 38, .int x1, .int x2, .int x3, .int x4, .int x5, .int x6, .null, .null, .null, .null] [.int (b2i (inI x4 1 9))] (hov hp [(38, .inr (7, [.ref 39, .ref 40, .int bu, .int (nI q), .ref 41, .int (nI pn), .ref 42, .int fl, .int fa, .int fw, .int fr, .int rs, .int ac, .ref 43, .ref 44, .ref 45, .ref 46, .ref 47, .ref 48, .ref 49]))]) _
  refine E_if_eq (tgt := 63) dX7_nods_38 (by decide) (fun _ => ?_) (fun c => (b2i_x0 h3 c).elim)
  refine E_bipush (v := (-2)) dX7_nods_63 (by decide) ?_
  exact E_iretf dX7_nods_65 rfl rfl rfl rfl

set_option maxHeartbeats 4000000 in
set_option maxRecDepth 20000 in
theorem m_nods_o4 (d : Nat) (bu fl fa fw fr rs ac : Int32) (q pn : Nat) (x1 x2 x3 x4 x5 x6 : Int32) (h0 : inI x1 1 9 = true) (h1 : inI x2 1 9 = true) (h2 : inI x3 1 9 = true) (h3 : inI x4 1 9 = true) (h4 : inI x5 0 9999 = false) : FC YX7_nods (d + 1) [.ref 38, .int x1, .int x2, .int x3, .int x4, .int x5, .int x6, .null, .null, .null, .null] [(38, .inr (7, [.ref 39, .ref 40, .int bu, .int (nI q), .ref 41, .int (nI pn), .ref 42, .int fl, .int fa, .int fw, .int fr, .int rs, .int ac, .ref 43, .ref 44, .ref 45, .ref 46, .ref 47, .ref 48, .ref 49]))] (some (.int (-2))) [(38, .inr (7, [.ref 39, .ref 40, .int bu, .int (nI q), .ref 41, .int (nI pn), .ref 42, .int fl, .int fa, .int fw, .int fr, .int rs, .int ac, .ref 43, .ref 44, .ref 45, .ref 46, .ref 47, .ref 48, .ref 49]))] := by
  intro hp
  refine E_iload_n dX7_nods_0 rfl ?_
  refine E_iconst (v := 1) dX7_nods_1 (by decide) ?_
  refine E_bipush (v := 9) dX7_nods_2 (by decide) ?_
  refine E_callS (As := [.int x1, .int 1, .int 9]) (l' := [.int x1, .int 1, .int 9]) (st := []) dX7_nods_4 kX7_48 sX7_in MX7_in rfl rfl (Nat.le_of_ble_eq_true rfl) (FC.use (c_in d _ _ _) rfl (L2 := [(38, .inr (7, [.ref 39, .ref 40, .int bu, .int (nI q), .ref 41, .int (nI pn), .ref 42, .int fl, .int fa, .int fw, .int fr, .int rs, .int ac, .ref 43, .ref 44, .ref 45, .ref 46, .ref 47, .ref 48, .ref 49]))]) rfl) (Nat.le_of_ble_eq_true rfl) (fun _ _ hq9 => E_fgo ?_ hq9)
  show E _ _ 7 [.ref 38, .int x1, .int x2, .int x3, .int x4, .int x5, .int x6, .null, .null, .null, .null] [.int (b2i (inI x1 1 9))] (hov hp [(38, .inr (7, [.ref 39, .ref 40, .int bu, .int (nI q), .ref 41, .int (nI pn), .ref 42, .int fl, .int fa, .int fw, .int fr, .int rs, .int ac, .ref 43, .ref 44, .ref 45, .ref 46, .ref 47, .ref 48, .ref 49]))]) _
  refine E_if_eq (tgt := 63) dX7_nods_7 (by decide) (fun c => (b2i_x1 h0 c).elim) (fun _ => ?_)
  refine E_iload_n dX7_nods_10 rfl ?_
  refine E_iconst (v := 1) dX7_nods_11 (by decide) ?_
  refine E_bipush (v := 9) dX7_nods_12 (by decide) ?_
  refine E_callS (As := [.int x2, .int 1, .int 9]) (l' := [.int x2, .int 1, .int 9]) (st := []) dX7_nods_14 kX7_48 sX7_in MX7_in rfl rfl (Nat.le_of_ble_eq_true rfl) (FC.use (c_in d _ _ _) rfl (L2 := [(38, .inr (7, [.ref 39, .ref 40, .int bu, .int (nI q), .ref 41, .int (nI pn), .ref 42, .int fl, .int fa, .int fw, .int fr, .int rs, .int ac, .ref 43, .ref 44, .ref 45, .ref 46, .ref 47, .ref 48, .ref 49]))]) rfl) (Nat.le_of_ble_eq_true rfl) (fun _ _ hq9 => E_fgo ?_ hq9)
  show E _ _ 17 [.ref 38, .int x1, .int x2, .int x3, .int x4, .int x5, .int x6, .null, .null, .null, .null] [.int (b2i (inI x2 1 9))] (hov hp [(38, .inr (7, [.ref 39, .ref 40, .int bu, .int (nI q), .ref 41, .int (nI pn), .ref 42, .int fl, .int fa, .int fw, .int fr, .int rs, .int ac, .ref 43, .ref 44, .ref 45, .ref 46, .ref 47, .ref 48, .ref 49]))]) _
  refine E_if_eq (tgt := 63) dX7_nods_17 (by decide) (fun c => (b2i_x1 h1 c).elim) (fun _ => ?_)
  refine E_iload_n dX7_nods_20 rfl ?_
  refine E_iconst (v := 1) dX7_nods_21 (by decide) ?_
  refine E_bipush (v := 9) dX7_nods_22 (by decide) ?_
  refine E_callS (As := [.int x3, .int 1, .int 9]) (l' := [.int x3, .int 1, .int 9]) (st := []) dX7_nods_24 kX7_48 sX7_in MX7_in rfl rfl (Nat.le_of_ble_eq_true rfl) (FC.use (c_in d _ _ _) rfl (L2 := [(38, .inr (7, [.ref 39, .ref 40, .int bu, .int (nI q), .ref 41, .int (nI pn), .ref 42, .int fl, .int fa, .int fw, .int fr, .int rs, .int ac, .ref 43, .ref 44, .ref 45, .ref 46, .ref 47, .ref 48, .ref 49]))]) rfl) (Nat.le_of_ble_eq_true rfl) (fun _ _ hq9 => E_fgo ?_ hq9)
  show E _ _ 27 [.ref 38, .int x1, .int x2, .int x3, .int x4, .int x5, .int x6, .null, .null, .null, .null] [.int (b2i (inI x3 1 9))] (hov hp [(38, .inr (7, [.ref 39, .ref 40, .int bu, .int (nI q), .ref 41, .int (nI pn), .ref 42, .int fl, .int fa, .int fw, .int fr, .int rs, .int ac, .ref 43, .ref 44, .ref 45, .ref 46, .ref 47, .ref 48, .ref 49]))]) _
  refine E_if_eq (tgt := 63) dX7_nods_27 (by decide) (fun c => (b2i_x1 h2 c).elim) (fun _ => ?_)
  refine E_iload dX7_nods_30 rfl ?_
  refine E_iconst (v := 1) dX7_nods_32 (by decide) ?_
  refine E_bipush (v := 9) dX7_nods_33 (by decide) ?_
  refine E_callS (As := [.int x4, .int 1, .int 9]) (l' := [.int x4, .int 1, .int 9]) (st := []) dX7_nods_35 kX7_48 sX7_in MX7_in rfl rfl (Nat.le_of_ble_eq_true rfl) (FC.use (c_in d _ _ _) rfl (L2 := [(38, .inr (7, [.ref 39, .ref 40, .int bu, .int (nI q), .ref 41, .int (nI pn), .ref 42, .int fl, .int fa, .int fw, .int fr, .int rs, .int ac, .ref 43, .ref 44, .ref 45, .ref 46, .ref 47, .ref 48, .ref 49]))]) rfl) (Nat.le_of_ble_eq_true rfl) (fun _ _ hq9 => E_fgo ?_ hq9)
  show E _ _ 38 [.ref 38, .int x1, .int x2, .int x3, .int x4, .int x5, .int x6, .null, .null, .null, .null] [.int (b2i (inI x4 1 9))] (hov hp [(38, .inr (7, [.ref 39, .ref 40, .int bu, .int (nI q), .ref 41, .int (nI pn), .ref 42, .int fl, .int fa, .int fw, .int fr, .int rs, .int ac, .ref 43, .ref 44, .ref 45, .ref 46, .ref 47, .ref 48, .ref 49]))]) _
  refine E_if_eq (tgt := 63) dX7_nods_38 (by decide) (fun c => (b2i_x1 h3 c).elim) (fun _ => ?_)
  refine E_iload dX7_nods_41 rfl ?_
  refine E_iconst (v := 0) dX7_nods_43 (by decide) ?_
  refine E_sipush (v := 9999) dX7_nods_44 (by decide) ?_
  refine E_callS (As := [.int x5, .int 0, .int 9999]) (l' := [.int x5, .int 0, .int 9999]) (st := []) dX7_nods_47 kX7_48 sX7_in MX7_in rfl rfl (Nat.le_of_ble_eq_true rfl) (FC.use (c_in d _ _ _) rfl (L2 := [(38, .inr (7, [.ref 39, .ref 40, .int bu, .int (nI q), .ref 41, .int (nI pn), .ref 42, .int fl, .int fa, .int fw, .int fr, .int rs, .int ac, .ref 43, .ref 44, .ref 45, .ref 46, .ref 47, .ref 48, .ref 49]))]) rfl) (Nat.le_of_ble_eq_true rfl) (fun _ _ hq9 => E_fgo ?_ hq9)
  show E _ _ 50 [.ref 38, .int x1, .int x2, .int x3, .int x4, .int x5, .int x6, .null, .null, .null, .null] [.int (b2i (inI x5 0 9999))] (hov hp [(38, .inr (7, [.ref 39, .ref 40, .int bu, .int (nI q), .ref 41, .int (nI pn), .ref 42, .int fl, .int fa, .int fw, .int fr, .int rs, .int ac, .ref 43, .ref 44, .ref 45, .ref 46, .ref 47, .ref 48, .ref 49]))]) _
  refine E_if_eq (tgt := 63) dX7_nods_50 (by decide) (fun _ => ?_) (fun c => (b2i_x0 h4 c).elim)
  refine E_bipush (v := (-2)) dX7_nods_63 (by decide) ?_
  exact E_iretf dX7_nods_65 rfl rfl rfl rfl

set_option maxHeartbeats 4000000 in
set_option maxRecDepth 20000 in
theorem m_nods_o5 (d : Nat) (bu fl fa fw fr rs ac : Int32) (q pn : Nat) (x1 x2 x3 x4 x5 x6 : Int32) (h0 : inI x1 1 9 = true) (h1 : inI x2 1 9 = true) (h2 : inI x3 1 9 = true) (h3 : inI x4 1 9 = true) (h4 : inI x5 0 9999 = true) (h5 : inI x6 0 1 = false) : FC YX7_nods (d + 1) [.ref 38, .int x1, .int x2, .int x3, .int x4, .int x5, .int x6, .null, .null, .null, .null] [(38, .inr (7, [.ref 39, .ref 40, .int bu, .int (nI q), .ref 41, .int (nI pn), .ref 42, .int fl, .int fa, .int fw, .int fr, .int rs, .int ac, .ref 43, .ref 44, .ref 45, .ref 46, .ref 47, .ref 48, .ref 49]))] (some (.int (-2))) [(38, .inr (7, [.ref 39, .ref 40, .int bu, .int (nI q), .ref 41, .int (nI pn), .ref 42, .int fl, .int fa, .int fw, .int fr, .int rs, .int ac, .ref 43, .ref 44, .ref 45, .ref 46, .ref 47, .ref 48, .ref 49]))] := by
  intro hp
  refine E_iload_n dX7_nods_0 rfl ?_
  refine E_iconst (v := 1) dX7_nods_1 (by decide) ?_
  refine E_bipush (v := 9) dX7_nods_2 (by decide) ?_
  refine E_callS (As := [.int x1, .int 1, .int 9]) (l' := [.int x1, .int 1, .int 9]) (st := []) dX7_nods_4 kX7_48 sX7_in MX7_in rfl rfl (Nat.le_of_ble_eq_true rfl) (FC.use (c_in d _ _ _) rfl (L2 := [(38, .inr (7, [.ref 39, .ref 40, .int bu, .int (nI q), .ref 41, .int (nI pn), .ref 42, .int fl, .int fa, .int fw, .int fr, .int rs, .int ac, .ref 43, .ref 44, .ref 45, .ref 46, .ref 47, .ref 48, .ref 49]))]) rfl) (Nat.le_of_ble_eq_true rfl) (fun _ _ hq9 => E_fgo ?_ hq9)
  show E _ _ 7 [.ref 38, .int x1, .int x2, .int x3, .int x4, .int x5, .int x6, .null, .null, .null, .null] [.int (b2i (inI x1 1 9))] (hov hp [(38, .inr (7, [.ref 39, .ref 40, .int bu, .int (nI q), .ref 41, .int (nI pn), .ref 42, .int fl, .int fa, .int fw, .int fr, .int rs, .int ac, .ref 43, .ref 44, .ref 45, .ref 46, .ref 47, .ref 48, .ref 49]))]) _
  refine E_if_eq (tgt := 63) dX7_nods_7 (by decide) (fun c => (b2i_x1 h0 c).elim) (fun _ => ?_)
  refine E_iload_n dX7_nods_10 rfl ?_
  refine E_iconst (v := 1) dX7_nods_11 (by decide) ?_
  refine E_bipush (v := 9) dX7_nods_12 (by decide) ?_
  refine E_callS (As := [.int x2, .int 1, .int 9]) (l' := [.int x2, .int 1, .int 9]) (st := []) dX7_nods_14 kX7_48 sX7_in MX7_in rfl rfl (Nat.le_of_ble_eq_true rfl) (FC.use (c_in d _ _ _) rfl (L2 := [(38, .inr (7, [.ref 39, .ref 40, .int bu, .int (nI q), .ref 41, .int (nI pn), .ref 42, .int fl, .int fa, .int fw, .int fr, .int rs, .int ac, .ref 43, .ref 44, .ref 45, .ref 46, .ref 47, .ref 48, .ref 49]))]) rfl) (Nat.le_of_ble_eq_true rfl) (fun _ _ hq9 => E_fgo ?_ hq9)
  show E _ _ 17 [.ref 38, .int x1, .int x2, .int x3, .int x4, .int x5, .int x6, .null, .null, .null, .null] [.int (b2i (inI x2 1 9))] (hov hp [(38, .inr (7, [.ref 39, .ref 40, .int bu, .int (nI q), .ref 41, .int (nI pn), .ref 42, .int fl, .int fa, .int fw, .int fr, .int rs, .int ac, .ref 43, .ref 44, .ref 45, .ref 46, .ref 47, .ref 48, .ref 49]))]) _
  refine E_if_eq (tgt := 63) dX7_nods_17 (by decide) (fun c => (b2i_x1 h1 c).elim) (fun _ => ?_)
  refine E_iload_n dX7_nods_20 rfl ?_
  refine E_iconst (v := 1) dX7_nods_21 (by decide) ?_
  refine E_bipush (v := 9) dX7_nods_22 (by decide) ?_
  refine E_callS (As := [.int x3, .int 1, .int 9]) (l' := [.int x3, .int 1, .int 9]) (st := []) dX7_nods_24 kX7_48 sX7_in MX7_in rfl rfl (Nat.le_of_ble_eq_true rfl) (FC.use (c_in d _ _ _) rfl (L2 := [(38, .inr (7, [.ref 39, .ref 40, .int bu, .int (nI q), .ref 41, .int (nI pn), .ref 42, .int fl, .int fa, .int fw, .int fr, .int rs, .int ac, .ref 43, .ref 44, .ref 45, .ref 46, .ref 47, .ref 48, .ref 49]))]) rfl) (Nat.le_of_ble_eq_true rfl) (fun _ _ hq9 => E_fgo ?_ hq9)
  show E _ _ 27 [.ref 38, .int x1, .int x2, .int x3, .int x4, .int x5, .int x6, .null, .null, .null, .null] [.int (b2i (inI x3 1 9))] (hov hp [(38, .inr (7, [.ref 39, .ref 40, .int bu, .int (nI q), .ref 41, .int (nI pn), .ref 42, .int fl, .int fa, .int fw, .int fr, .int rs, .int ac, .ref 43, .ref 44, .ref 45, .ref 46, .ref 47, .ref 48, .ref 49]))]) _
  refine E_if_eq (tgt := 63) dX7_nods_27 (by decide) (fun c => (b2i_x1 h2 c).elim) (fun _ => ?_)
  refine E_iload dX7_nods_30 rfl ?_
  refine E_iconst (v := 1) dX7_nods_32 (by decide) ?_
  refine E_bipush (v := 9) dX7_nods_33 (by decide) ?_
  refine E_callS (As := [.int x4, .int 1, .int 9]) (l' := [.int x4, .int 1, .int 9]) (st := []) dX7_nods_35 kX7_48 sX7_in MX7_in rfl rfl (Nat.le_of_ble_eq_true rfl) (FC.use (c_in d _ _ _) rfl (L2 := [(38, .inr (7, [.ref 39, .ref 40, .int bu, .int (nI q), .ref 41, .int (nI pn), .ref 42, .int fl, .int fa, .int fw, .int fr, .int rs, .int ac, .ref 43, .ref 44, .ref 45, .ref 46, .ref 47, .ref 48, .ref 49]))]) rfl) (Nat.le_of_ble_eq_true rfl) (fun _ _ hq9 => E_fgo ?_ hq9)
  show E _ _ 38 [.ref 38, .int x1, .int x2, .int x3, .int x4, .int x5, .int x6, .null, .null, .null, .null] [.int (b2i (inI x4 1 9))] (hov hp [(38, .inr (7, [.ref 39, .ref 40, .int bu, .int (nI q), .ref 41, .int (nI pn), .ref 42, .int fl, .int fa, .int fw, .int fr, .int rs, .int ac, .ref 43, .ref 44, .ref 45, .ref 46, .ref 47, .ref 48, .ref 49]))]) _
  refine E_if_eq (tgt := 63) dX7_nods_38 (by decide) (fun c => (b2i_x1 h3 c).elim) (fun _ => ?_)
  refine E_iload dX7_nods_41 rfl ?_
  refine E_iconst (v := 0) dX7_nods_43 (by decide) ?_
  refine E_sipush (v := 9999) dX7_nods_44 (by decide) ?_
  refine E_callS (As := [.int x5, .int 0, .int 9999]) (l' := [.int x5, .int 0, .int 9999]) (st := []) dX7_nods_47 kX7_48 sX7_in MX7_in rfl rfl (Nat.le_of_ble_eq_true rfl) (FC.use (c_in d _ _ _) rfl (L2 := [(38, .inr (7, [.ref 39, .ref 40, .int bu, .int (nI q), .ref 41, .int (nI pn), .ref 42, .int fl, .int fa, .int fw, .int fr, .int rs, .int ac, .ref 43, .ref 44, .ref 45, .ref 46, .ref 47, .ref 48, .ref 49]))]) rfl) (Nat.le_of_ble_eq_true rfl) (fun _ _ hq9 => E_fgo ?_ hq9)
  show E _ _ 50 [.ref 38, .int x1, .int x2, .int x3, .int x4, .int x5, .int x6, .null, .null, .null, .null] [.int (b2i (inI x5 0 9999))] (hov hp [(38, .inr (7, [.ref 39, .ref 40, .int bu, .int (nI q), .ref 41, .int (nI pn), .ref 42, .int fl, .int fa, .int fw, .int fr, .int rs, .int ac, .ref 43, .ref 44, .ref 45, .ref 46, .ref 47, .ref 48, .ref 49]))]) _
  refine E_if_eq (tgt := 63) dX7_nods_50 (by decide) (fun c => (b2i_x1 h4 c).elim) (fun _ => ?_)
  refine E_iload dX7_nods_53 rfl ?_
  refine E_iconst (v := 0) dX7_nods_55 (by decide) ?_
  refine E_iconst (v := 1) dX7_nods_56 (by decide) ?_
  refine E_callS (As := [.int x6, .int 0, .int 1]) (l' := [.int x6, .int 0, .int 1]) (st := []) dX7_nods_57 kX7_48 sX7_in MX7_in rfl rfl (Nat.le_of_ble_eq_true rfl) (FC.use (c_in d _ _ _) rfl (L2 := [(38, .inr (7, [.ref 39, .ref 40, .int bu, .int (nI q), .ref 41, .int (nI pn), .ref 42, .int fl, .int fa, .int fw, .int fr, .int rs, .int ac, .ref 43, .ref 44, .ref 45, .ref 46, .ref 47, .ref 48, .ref 49]))]) rfl) (Nat.le_of_ble_eq_true rfl) (fun _ _ hq9 => E_fgo ?_ hq9)
  show E _ _ 60 [.ref 38, .int x1, .int x2, .int x3, .int x4, .int x5, .int x6, .null, .null, .null, .null] [.int (b2i (inI x6 0 1))] (hov hp [(38, .inr (7, [.ref 39, .ref 40, .int bu, .int (nI q), .ref 41, .int (nI pn), .ref 42, .int fl, .int fa, .int fw, .int fr, .int rs, .int ac, .ref 43, .ref 44, .ref 45, .ref 46, .ref 47, .ref 48, .ref 49]))]) _
  refine E_if_ne (tgt := 66) dX7_nods_60 (by decide) (fun c => (b2i_x0 h5 c).elim) (fun _ => ?_)
  refine E_bipush (v := (-2)) dX7_nods_63 (by decide) ?_
  exact E_iretf dX7_nods_65 rfl rfl rfl rfl

set_option maxHeartbeats 4000000 in
set_option maxRecDepth 20000 in
theorem m_nods_0 (d : Nat) (bu fl fa fw fr rs ac : Int32) (q pn : Nat) (a b c d' n P j : Nat) (ha : 1 ≤ a) (ha2 : a ≤ 9) (hb : 1 ≤ b) (hb2 : b ≤ 9) (hc : 1 ≤ c) (hc2 : c ≤ 9) (hd : 1 ≤ d') (hd2 : d' ≤ 9) (hn : n < 10000) (hPe : (a + b) * (c + d') = P) (hP2 : P ≤ 324) (h0 : inI (nI a) 1 9 = true) (h1 : inI (nI b) 1 9 = true) (h2 : inI (nI c) 1 9 = true) (h3 : inI (nI d') 1 9 = true) (h4 : inI (nI n) 0 9999 = true) (hj : j < P) (hpj : bth a b c d' j = true) (hno : ∀ i, i < j → bth a b c d' i = false) : FC YX7_nods (d + 1) [.ref 38, .int (nI a), .int (nI b), .int (nI c), .int (nI d'), .int (nI n), .int 0, .null, .null, .null, .null] [(38, .inr (7, [.ref 39, .ref 40, .int bu, .int (nI q), .ref 41, .int (nI pn), .ref 42, .int fl, .int fa, .int fw, .int fr, .int rs, .int ac, .ref 43, .ref 44, .ref 45, .ref 46, .ref 47, .ref 48, .ref 49]))] (some (.int (nI (n / P * cntS (bth a b c d') P + cntS (bth a b c d') (n % P))))) [(38, .inr (7, [.ref 39, .ref 40, .int bu, .int (nI q), .ref 41, .int (nI pn), .ref 42, .int fl, .int fa, .int fw, .int fr, .int rs, .int ac, .ref 43, .ref 44, .ref 45, .ref 46, .ref 47, .ref 48, .ref 49]))] := by
  intro hp
  have L : ∀ i, i ≤ (max n (j + 1)) → ∀ l10 : Value, E YX7_nods (d + 1) 76 [.ref 38, .int (nI a), .int (nI b), .int (nI c), .int (nI d'), .int (nI n), .int 0, .int (nI (cntS (bth a b c d') (min i n))), .int (fsF j i), .int (nI (i + 1)), l10] [] (hov hp [(38, .inr (7, [.ref 39, .ref 40, .int bu, .int (nI q), .ref 41, .int (nI pn), .ref 42, .int fl, .int fa, .int fw, .int fr, .int rs, .int ac, .ref 43, .ref 44, .ref 45, .ref 46, .ref 47, .ref 48, .ref 49]))]) (fun v h' => v = some (.int (nI (n / P * cntS (bth a b c d') P + cntS (bth a b c d') (n % P)))) ∧ h' = hov hp [(38, .inr (7, [.ref 39, .ref 40, .int bu, .int (nI q), .ref 41, .int (nI pn), .ref 42, .int fl, .int fa, .int fw, .int fr, .int rs, .int ac, .ref 43, .ref 44, .ref 45, .ref 46, .ref 47, .ref 48, .ref 49]))]) := by
    refine down (max n (j + 1)) ?_ ?_
    · intro l10
      refine E_iload dX7_nods_76 rfl ?_
      refine E_iload dX7_nods_78 rfl ?_
      refine E_icmp_le (tgt := 88) dX7_nods_80 (by decide) (fun c => absurd c (nI_ge (by omega) (by omega))) (fun _ => ?_)
      refine E_iload dX7_nods_83 rfl ?_
      refine E_if_ge (tgt := 167) dX7_nods_85 (by decide) (fun _ => ?_) (fun c => absurd (by rw [fs_gt (by omega)]; exact nI_le (a := 0) (Nat.zero_le _) (by omega)) c)
      refine E_iload dX7_nods_167 rfl ?_
      refine E_if_ne (tgt := 177) dX7_nods_169 (by decide) (fun c => by first | exact absurd c (by decide) | exact absurd (by decide) c) (fun _ => ?_)
      refine E_iload dX7_nods_172 rfl ?_
      refine E_goto (tgt := 179) dX7_nods_174 (by decide) ?_
      exact E_iretf dX7_nods_179 rfl rfl (by rw [Nat.min_eq_right (by omega), ← cntS_per (bth_per hPe)]) rfl
    · intro i hi ih l10
      refine E_iload dX7_nods_76 rfl ?_
      refine E_iload dX7_nods_78 rfl ?_
      refine E_icmp_le (tgt := 88) dX7_nods_80 (by decide) (fun c80 => ?_) (fun c80 => ?_)
      · have cb80 : i < n := Nat.lt_of_not_le (fun h => nI_ge (by omega) (by omega) c80)
        refine E_iload dX7_nods_88 rfl ?_
        refine E_iconst (v := 1) dX7_nods_90 (by decide) ?_
        refine E_isub dX7_nods_91 ?_
        refine E_eqi (y := nI i) (nI_pred _) ?_
        refine E_iload_n dX7_nods_92 rfl ?_
        refine E_iload_n dX7_nods_93 rfl ?_
        refine E_iadd dX7_nods_94 ?_
        refine E_eqi (y := nI (a + b)) (nI_add _ _) ?_
        refine E_irem dX7_nods_95 (nI_ne0 (by omega) (by omega)) ?_
        refine E_eqi (y := nI (i % (a + b))) (nI_r (by omega) (by omega) (by omega)) ?_
        refine E_iload_n dX7_nods_96 rfl ?_
        refine E_icmp_lt (tgt := 117) dX7_nods_97 (by decide) (fun c97 => ?_) (fun c97 => ?_)
        · have cb97 : ¬ a ≤ i % (a + b) := fun h => nI_nlt h (by have := Nat.mod_lt i (show 0 < a + b by omega); omega) c97
          refine E_iconst (v := 0) dX7_nods_117 (by decide) ?_
          refine E_istore (l2 := [.ref 38, .int (nI a), .int (nI b), .int (nI c), .int (nI d'), .int (nI n), .int 0, .int (nI (cntS (bth a b c d') (min i n))), .int (fsF j i), .int (nI (i + 1)), .int 0]) dX7_nods_118 (by decide) rfl ?_
          refine E_iload dX7_nods_120 rfl ?_
          refine E_iload dX7_nods_122 rfl ?_
          refine E_if_eq (tgt := 138) dX7_nods_124 (by decide) (fun _ => ?_) (fun c => by first | exact absurd c (by decide) | exact absurd (by decide) c)
          refine E_iconst (v := 0) dX7_nods_138 (by decide) ?_
          refine E_iadd dX7_nods_139 ?_
          refine E_eqi (y := nI (cntS (bth a b c d') (min (i + 1) n))) (cm_f (p := (bth a b c d')) (by simp [bth, slp, cb97])) ?_
          refine E_istore (l2 := [.ref 38, .int (nI a), .int (nI b), .int (nI c), .int (nI d'), .int (nI n), .int 0, .int (nI (cntS (bth a b c d') (min (i + 1) n))), .int (fsF j i), .int (nI (i + 1)), .int 0]) dX7_nods_140 (by decide) rfl ?_
          refine E_iload dX7_nods_142 rfl ?_
          refine E_if_eq (tgt := 157) dX7_nods_144 (by decide) (fun _ => ?_) (fun c => by first | exact absurd c (by decide) | exact absurd (by decide) c)
          refine E_iload dX7_nods_157 rfl ?_
          refine E_eqi (y := fsF j (i + 1)) (fs_f (p := (bth a b c d')) hpj (by simp [bth, slp, cb97])) ?_
          refine E_istore (l2 := [.ref 38, .int (nI a), .int (nI b), .int (nI c), .int (nI d'), .int (nI n), .int 0, .int (nI (cntS (bth a b c d') (min (i + 1) n))), .int (fsF j (i + 1)), .int (nI (i + 1)), .int 0]) dX7_nods_159 (by decide) rfl ?_
          refine E_iinc (y := nI (i + 1 + 1)) (l2 := [.ref 38, .int (nI a), .int (nI b), .int (nI c), .int (nI d'), .int (nI n), .int 0, .int (nI (cntS (bth a b c d') (min (i + 1) n))), .int (fsF j (i + 1)), .int (nI (i + 1 + 1)), .int 0]) dX7_nods_161 rfl (nI_1 _) (by decide) rfl ?_
          refine E_goto (tgt := 76) dX7_nods_164 (by decide) ?_
          exact ih _
        · have cb97 : a ≤ i % (a + b) := Nat.le_of_not_lt (fun h => c97 (nI_lt h (by omega)))
          refine E_iload dX7_nods_100 rfl ?_
          refine E_iconst (v := 1) dX7_nods_102 (by decide) ?_
          refine E_isub dX7_nods_103 ?_
          refine E_eqi (y := nI i) (nI_pred _) ?_
          refine E_iload_n dX7_nods_104 rfl ?_
          refine E_iload dX7_nods_105 rfl ?_
          refine E_iadd dX7_nods_107 ?_
          refine E_eqi (y := nI (c + d')) (nI_add _ _) ?_
          refine E_irem dX7_nods_108 (nI_ne0 (by omega) (by omega)) ?_
          refine E_eqi (y := nI (i % (c + d'))) (nI_r (by omega) (by omega) (by omega)) ?_
          refine E_iload_n dX7_nods_109 rfl ?_
          refine E_icmp_lt (tgt := 117) dX7_nods_110 (by decide) (fun c110 => ?_) (fun c110 => ?_)
          · have cb110 : ¬ c ≤ i % (c + d') := fun h => nI_nlt h (by have := Nat.mod_lt i (show 0 < c + d' by omega); omega) c110
            refine E_iconst (v := 0) dX7_nods_117 (by decide) ?_
            refine E_istore (l2 := [.ref 38, .int (nI a), .int (nI b), .int (nI c), .int (nI d'), .int (nI n), .int 0, .int (nI (cntS (bth a b c d') (min i n))), .int (fsF j i), .int (nI (i + 1)), .int 0]) dX7_nods_118 (by decide) rfl ?_
            refine E_iload dX7_nods_120 rfl ?_
            refine E_iload dX7_nods_122 rfl ?_
            refine E_if_eq (tgt := 138) dX7_nods_124 (by decide) (fun _ => ?_) (fun c => by first | exact absurd c (by decide) | exact absurd (by decide) c)
            refine E_iconst (v := 0) dX7_nods_138 (by decide) ?_
            refine E_iadd dX7_nods_139 ?_
            refine E_eqi (y := nI (cntS (bth a b c d') (min (i + 1) n))) (cm_f (p := (bth a b c d')) (by simp [bth, slp, cb97, cb110])) ?_
            refine E_istore (l2 := [.ref 38, .int (nI a), .int (nI b), .int (nI c), .int (nI d'), .int (nI n), .int 0, .int (nI (cntS (bth a b c d') (min (i + 1) n))), .int (fsF j i), .int (nI (i + 1)), .int 0]) dX7_nods_140 (by decide) rfl ?_
            refine E_iload dX7_nods_142 rfl ?_
            refine E_if_eq (tgt := 157) dX7_nods_144 (by decide) (fun _ => ?_) (fun c => by first | exact absurd c (by decide) | exact absurd (by decide) c)
            refine E_iload dX7_nods_157 rfl ?_
            refine E_eqi (y := fsF j (i + 1)) (fs_f (p := (bth a b c d')) hpj (by simp [bth, slp, cb97, cb110])) ?_
            refine E_istore (l2 := [.ref 38, .int (nI a), .int (nI b), .int (nI c), .int (nI d'), .int (nI n), .int 0, .int (nI (cntS (bth a b c d') (min (i + 1) n))), .int (fsF j (i + 1)), .int (nI (i + 1)), .int 0]) dX7_nods_159 (by decide) rfl ?_
            refine E_iinc (y := nI (i + 1 + 1)) (l2 := [.ref 38, .int (nI a), .int (nI b), .int (nI c), .int (nI d'), .int (nI n), .int 0, .int (nI (cntS (bth a b c d') (min (i + 1) n))), .int (fsF j (i + 1)), .int (nI (i + 1 + 1)), .int 0]) dX7_nods_161 rfl (nI_1 _) (by decide) rfl ?_
            refine E_goto (tgt := 76) dX7_nods_164 (by decide) ?_
            exact ih _
          · have cb110 : c ≤ i % (c + d') := Nat.le_of_not_lt (fun h => c110 (nI_lt h (by omega)))
            refine E_iconst (v := 1) dX7_nods_113 (by decide) ?_
            refine E_goto (tgt := 118) dX7_nods_114 (by decide) ?_
            refine E_istore (l2 := [.ref 38, .int (nI a), .int (nI b), .int (nI c), .int (nI d'), .int (nI n), .int 0, .int (nI (cntS (bth a b c d') (min i n))), .int (fsF j i), .int (nI (i + 1)), .int 1]) dX7_nods_118 (by decide) rfl ?_
            refine E_iload dX7_nods_120 rfl ?_
            refine E_iload dX7_nods_122 rfl ?_
            refine E_if_eq (tgt := 138) dX7_nods_124 (by decide) (fun c => by first | exact absurd c (by decide) | exact absurd (by decide) c) (fun _ => ?_)
            refine E_iload dX7_nods_127 rfl ?_
            refine E_iload dX7_nods_129 rfl ?_
            refine E_icmp_gt (tgt := 138) dX7_nods_131 (by decide) (fun c131 => ?_) (fun c131 => ?_)
            · have cb131 : n ≤ i := Nat.le_of_not_lt (fun h => nI_nlt (by omega) (by omega) c131)
              refine E_iconst (v := 0) dX7_nods_138 (by decide) ?_
              refine E_iadd dX7_nods_139 ?_
              refine E_eqi (y := nI (cntS (bth a b c d') (min (i + 1) n))) (cm_g cb131) ?_
              refine E_istore (l2 := [.ref 38, .int (nI a), .int (nI b), .int (nI c), .int (nI d'), .int (nI n), .int 0, .int (nI (cntS (bth a b c d') (min (i + 1) n))), .int (fsF j i), .int (nI (i + 1)), .int 1]) dX7_nods_140 (by decide) rfl ?_
              refine E_iload dX7_nods_142 rfl ?_
              refine E_if_eq (tgt := 157) dX7_nods_144 (by decide) (fun c => by first | exact absurd c (by decide) | exact absurd (by decide) c) (fun _ => ?_)
              refine E_iload dX7_nods_147 rfl ?_
              refine E_if_ge (tgt := 157) dX7_nods_149 (by decide) (fun c149 => ?_) (fun c149 => ?_)
              · refine E_iload dX7_nods_157 rfl ?_
                refine E_eqi (y := fsF j (i + 1)) (fs_g c149) ?_
                refine E_istore (l2 := [.ref 38, .int (nI a), .int (nI b), .int (nI c), .int (nI d'), .int (nI n), .int 0, .int (nI (cntS (bth a b c d') (min (i + 1) n))), .int (fsF j (i + 1)), .int (nI (i + 1)), .int 1]) dX7_nods_159 (by decide) rfl ?_
                refine E_iinc (y := nI (i + 1 + 1)) (l2 := [.ref 38, .int (nI a), .int (nI b), .int (nI c), .int (nI d'), .int (nI n), .int 0, .int (nI (cntS (bth a b c d') (min (i + 1) n))), .int (fsF j (i + 1)), .int (nI (i + 1 + 1)), .int 1]) dX7_nods_161 rfl (nI_1 _) (by decide) rfl ?_
                refine E_goto (tgt := 76) dX7_nods_164 (by decide) ?_
                exact ih _
              · refine E_iload dX7_nods_152 rfl ?_
                refine E_eqi (y := fsF j (i + 1)) (fs_t (p := (bth a b c d')) (by omega) hno (by simp [bth, slp, cb97, cb110]) c149) ?_
                refine E_goto (tgt := 159) dX7_nods_154 (by decide) ?_
                refine E_istore (l2 := [.ref 38, .int (nI a), .int (nI b), .int (nI c), .int (nI d'), .int (nI n), .int 0, .int (nI (cntS (bth a b c d') (min (i + 1) n))), .int (fsF j (i + 1)), .int (nI (i + 1)), .int 1]) dX7_nods_159 (by decide) rfl ?_
                refine E_iinc (y := nI (i + 1 + 1)) (l2 := [.ref 38, .int (nI a), .int (nI b), .int (nI c), .int (nI d'), .int (nI n), .int 0, .int (nI (cntS (bth a b c d') (min (i + 1) n))), .int (fsF j (i + 1)), .int (nI (i + 1 + 1)), .int 1]) dX7_nods_161 rfl (nI_1 _) (by decide) rfl ?_
                refine E_goto (tgt := 76) dX7_nods_164 (by decide) ?_
                exact ih _
            · have cb131 : i < n := Nat.lt_of_not_le (fun h => c131 (nI_lt (by omega) (by omega)))
              refine E_iconst (v := 1) dX7_nods_134 (by decide) ?_
              refine E_goto (tgt := 139) dX7_nods_135 (by decide) ?_
              refine E_iadd dX7_nods_139 ?_
              refine E_eqi (y := nI (cntS (bth a b c d') (min (i + 1) n))) (cm_t (p := (bth a b c d')) (by simp [bth, slp, cb97, cb110]) cb131) ?_
              refine E_istore (l2 := [.ref 38, .int (nI a), .int (nI b), .int (nI c), .int (nI d'), .int (nI n), .int 0, .int (nI (cntS (bth a b c d') (min (i + 1) n))), .int (fsF j i), .int (nI (i + 1)), .int 1]) dX7_nods_140 (by decide) rfl ?_
              refine E_iload dX7_nods_142 rfl ?_
              refine E_if_eq (tgt := 157) dX7_nods_144 (by decide) (fun c => by first | exact absurd c (by decide) | exact absurd (by decide) c) (fun _ => ?_)
              refine E_iload dX7_nods_147 rfl ?_
              refine E_if_ge (tgt := 157) dX7_nods_149 (by decide) (fun c149 => ?_) (fun c149 => ?_)
              · refine E_iload dX7_nods_157 rfl ?_
                refine E_eqi (y := fsF j (i + 1)) (fs_g c149) ?_
                refine E_istore (l2 := [.ref 38, .int (nI a), .int (nI b), .int (nI c), .int (nI d'), .int (nI n), .int 0, .int (nI (cntS (bth a b c d') (min (i + 1) n))), .int (fsF j (i + 1)), .int (nI (i + 1)), .int 1]) dX7_nods_159 (by decide) rfl ?_
                refine E_iinc (y := nI (i + 1 + 1)) (l2 := [.ref 38, .int (nI a), .int (nI b), .int (nI c), .int (nI d'), .int (nI n), .int 0, .int (nI (cntS (bth a b c d') (min (i + 1) n))), .int (fsF j (i + 1)), .int (nI (i + 1 + 1)), .int 1]) dX7_nods_161 rfl (nI_1 _) (by decide) rfl ?_
                refine E_goto (tgt := 76) dX7_nods_164 (by decide) ?_
                exact ih _
              · refine E_iload dX7_nods_152 rfl ?_
                refine E_eqi (y := fsF j (i + 1)) (fs_t (p := (bth a b c d')) (by omega) hno (by simp [bth, slp, cb97, cb110]) c149) ?_
                refine E_goto (tgt := 159) dX7_nods_154 (by decide) ?_
                refine E_istore (l2 := [.ref 38, .int (nI a), .int (nI b), .int (nI c), .int (nI d'), .int (nI n), .int 0, .int (nI (cntS (bth a b c d') (min (i + 1) n))), .int (fsF j (i + 1)), .int (nI (i + 1)), .int 1]) dX7_nods_159 (by decide) rfl ?_
                refine E_iinc (y := nI (i + 1 + 1)) (l2 := [.ref 38, .int (nI a), .int (nI b), .int (nI c), .int (nI d'), .int (nI n), .int 0, .int (nI (cntS (bth a b c d') (min (i + 1) n))), .int (fsF j (i + 1)), .int (nI (i + 1 + 1)), .int 1]) dX7_nods_161 rfl (nI_1 _) (by decide) rfl ?_
                refine E_goto (tgt := 76) dX7_nods_164 (by decide) ?_
                exact ih _
      · have cb80 : n ≤ i := Nat.le_of_not_lt (fun h => c80 (nI_le (by omega) (by omega)))
        refine E_iload dX7_nods_83 rfl ?_
        refine E_if_ge (tgt := 167) dX7_nods_85 (by decide) (fun c => absurd c (by rw [fs_le (by omega)]; decide)) (fun _ => ?_)
        refine E_iload dX7_nods_88 rfl ?_
        refine E_iconst (v := 1) dX7_nods_90 (by decide) ?_
        refine E_isub dX7_nods_91 ?_
        refine E_eqi (y := nI i) (nI_pred _) ?_
        refine E_iload_n dX7_nods_92 rfl ?_
        refine E_iload_n dX7_nods_93 rfl ?_
        refine E_iadd dX7_nods_94 ?_
        refine E_eqi (y := nI (a + b)) (nI_add _ _) ?_
        refine E_irem dX7_nods_95 (nI_ne0 (by omega) (by omega)) ?_
        refine E_eqi (y := nI (i % (a + b))) (nI_r (by omega) (by omega) (by omega)) ?_
        refine E_iload_n dX7_nods_96 rfl ?_
        refine E_icmp_lt (tgt := 117) dX7_nods_97 (by decide) (fun c97 => ?_) (fun c97 => ?_)
        · have cb97 : ¬ a ≤ i % (a + b) := fun h => nI_nlt h (by have := Nat.mod_lt i (show 0 < a + b by omega); omega) c97
          refine E_iconst (v := 0) dX7_nods_117 (by decide) ?_
          refine E_istore (l2 := [.ref 38, .int (nI a), .int (nI b), .int (nI c), .int (nI d'), .int (nI n), .int 0, .int (nI (cntS (bth a b c d') (min i n))), .int (fsF j i), .int (nI (i + 1)), .int 0]) dX7_nods_118 (by decide) rfl ?_
          refine E_iload dX7_nods_120 rfl ?_
          refine E_iload dX7_nods_122 rfl ?_
          refine E_if_eq (tgt := 138) dX7_nods_124 (by decide) (fun _ => ?_) (fun c => by first | exact absurd c (by decide) | exact absurd (by decide) c)
          refine E_iconst (v := 0) dX7_nods_138 (by decide) ?_
          refine E_iadd dX7_nods_139 ?_
          refine E_eqi (y := nI (cntS (bth a b c d') (min (i + 1) n))) (cm_f (p := (bth a b c d')) (by simp [bth, slp, cb97])) ?_
          refine E_istore (l2 := [.ref 38, .int (nI a), .int (nI b), .int (nI c), .int (nI d'), .int (nI n), .int 0, .int (nI (cntS (bth a b c d') (min (i + 1) n))), .int (fsF j i), .int (nI (i + 1)), .int 0]) dX7_nods_140 (by decide) rfl ?_
          refine E_iload dX7_nods_142 rfl ?_
          refine E_if_eq (tgt := 157) dX7_nods_144 (by decide) (fun _ => ?_) (fun c => by first | exact absurd c (by decide) | exact absurd (by decide) c)
          refine E_iload dX7_nods_157 rfl ?_
          refine E_eqi (y := fsF j (i + 1)) (fs_f (p := (bth a b c d')) hpj (by simp [bth, slp, cb97])) ?_
          refine E_istore (l2 := [.ref 38, .int (nI a), .int (nI b), .int (nI c), .int (nI d'), .int (nI n), .int 0, .int (nI (cntS (bth a b c d') (min (i + 1) n))), .int (fsF j (i + 1)), .int (nI (i + 1)), .int 0]) dX7_nods_159 (by decide) rfl ?_
          refine E_iinc (y := nI (i + 1 + 1)) (l2 := [.ref 38, .int (nI a), .int (nI b), .int (nI c), .int (nI d'), .int (nI n), .int 0, .int (nI (cntS (bth a b c d') (min (i + 1) n))), .int (fsF j (i + 1)), .int (nI (i + 1 + 1)), .int 0]) dX7_nods_161 rfl (nI_1 _) (by decide) rfl ?_
          refine E_goto (tgt := 76) dX7_nods_164 (by decide) ?_
          exact ih _
        · have cb97 : a ≤ i % (a + b) := Nat.le_of_not_lt (fun h => c97 (nI_lt h (by omega)))
          refine E_iload dX7_nods_100 rfl ?_
          refine E_iconst (v := 1) dX7_nods_102 (by decide) ?_
          refine E_isub dX7_nods_103 ?_
          refine E_eqi (y := nI i) (nI_pred _) ?_
          refine E_iload_n dX7_nods_104 rfl ?_
          refine E_iload dX7_nods_105 rfl ?_
          refine E_iadd dX7_nods_107 ?_
          refine E_eqi (y := nI (c + d')) (nI_add _ _) ?_
          refine E_irem dX7_nods_108 (nI_ne0 (by omega) (by omega)) ?_
          refine E_eqi (y := nI (i % (c + d'))) (nI_r (by omega) (by omega) (by omega)) ?_
          refine E_iload_n dX7_nods_109 rfl ?_
          refine E_icmp_lt (tgt := 117) dX7_nods_110 (by decide) (fun c110 => ?_) (fun c110 => ?_)
          · have cb110 : ¬ c ≤ i % (c + d') := fun h => nI_nlt h (by have := Nat.mod_lt i (show 0 < c + d' by omega); omega) c110
            refine E_iconst (v := 0) dX7_nods_117 (by decide) ?_
            refine E_istore (l2 := [.ref 38, .int (nI a), .int (nI b), .int (nI c), .int (nI d'), .int (nI n), .int 0, .int (nI (cntS (bth a b c d') (min i n))), .int (fsF j i), .int (nI (i + 1)), .int 0]) dX7_nods_118 (by decide) rfl ?_
            refine E_iload dX7_nods_120 rfl ?_
            refine E_iload dX7_nods_122 rfl ?_
            refine E_if_eq (tgt := 138) dX7_nods_124 (by decide) (fun _ => ?_) (fun c => by first | exact absurd c (by decide) | exact absurd (by decide) c)
            refine E_iconst (v := 0) dX7_nods_138 (by decide) ?_
            refine E_iadd dX7_nods_139 ?_
            refine E_eqi (y := nI (cntS (bth a b c d') (min (i + 1) n))) (cm_f (p := (bth a b c d')) (by simp [bth, slp, cb97, cb110])) ?_
            refine E_istore (l2 := [.ref 38, .int (nI a), .int (nI b), .int (nI c), .int (nI d'), .int (nI n), .int 0, .int (nI (cntS (bth a b c d') (min (i + 1) n))), .int (fsF j i), .int (nI (i + 1)), .int 0]) dX7_nods_140 (by decide) rfl ?_
            refine E_iload dX7_nods_142 rfl ?_
            refine E_if_eq (tgt := 157) dX7_nods_144 (by decide) (fun _ => ?_) (fun c => by first | exact absurd c (by decide) | exact absurd (by decide) c)
            refine E_iload dX7_nods_157 rfl ?_
            refine E_eqi (y := fsF j (i + 1)) (fs_f (p := (bth a b c d')) hpj (by simp [bth, slp, cb97, cb110])) ?_
            refine E_istore (l2 := [.ref 38, .int (nI a), .int (nI b), .int (nI c), .int (nI d'), .int (nI n), .int 0, .int (nI (cntS (bth a b c d') (min (i + 1) n))), .int (fsF j (i + 1)), .int (nI (i + 1)), .int 0]) dX7_nods_159 (by decide) rfl ?_
            refine E_iinc (y := nI (i + 1 + 1)) (l2 := [.ref 38, .int (nI a), .int (nI b), .int (nI c), .int (nI d'), .int (nI n), .int 0, .int (nI (cntS (bth a b c d') (min (i + 1) n))), .int (fsF j (i + 1)), .int (nI (i + 1 + 1)), .int 0]) dX7_nods_161 rfl (nI_1 _) (by decide) rfl ?_
            refine E_goto (tgt := 76) dX7_nods_164 (by decide) ?_
            exact ih _
          · have cb110 : c ≤ i % (c + d') := Nat.le_of_not_lt (fun h => c110 (nI_lt h (by omega)))
            refine E_iconst (v := 1) dX7_nods_113 (by decide) ?_
            refine E_goto (tgt := 118) dX7_nods_114 (by decide) ?_
            refine E_istore (l2 := [.ref 38, .int (nI a), .int (nI b), .int (nI c), .int (nI d'), .int (nI n), .int 0, .int (nI (cntS (bth a b c d') (min i n))), .int (fsF j i), .int (nI (i + 1)), .int 1]) dX7_nods_118 (by decide) rfl ?_
            refine E_iload dX7_nods_120 rfl ?_
            refine E_iload dX7_nods_122 rfl ?_
            refine E_if_eq (tgt := 138) dX7_nods_124 (by decide) (fun c => by first | exact absurd c (by decide) | exact absurd (by decide) c) (fun _ => ?_)
            refine E_iload dX7_nods_127 rfl ?_
            refine E_iload dX7_nods_129 rfl ?_
            refine E_icmp_gt (tgt := 138) dX7_nods_131 (by decide) (fun c131 => ?_) (fun c131 => ?_)
            · have cb131 : n ≤ i := Nat.le_of_not_lt (fun h => nI_nlt (by omega) (by omega) c131)
              refine E_iconst (v := 0) dX7_nods_138 (by decide) ?_
              refine E_iadd dX7_nods_139 ?_
              refine E_eqi (y := nI (cntS (bth a b c d') (min (i + 1) n))) (cm_g cb131) ?_
              refine E_istore (l2 := [.ref 38, .int (nI a), .int (nI b), .int (nI c), .int (nI d'), .int (nI n), .int 0, .int (nI (cntS (bth a b c d') (min (i + 1) n))), .int (fsF j i), .int (nI (i + 1)), .int 1]) dX7_nods_140 (by decide) rfl ?_
              refine E_iload dX7_nods_142 rfl ?_
              refine E_if_eq (tgt := 157) dX7_nods_144 (by decide) (fun c => by first | exact absurd c (by decide) | exact absurd (by decide) c) (fun _ => ?_)
              refine E_iload dX7_nods_147 rfl ?_
              refine E_if_ge (tgt := 157) dX7_nods_149 (by decide) (fun c149 => ?_) (fun c149 => ?_)
              · refine E_iload dX7_nods_157 rfl ?_
                refine E_eqi (y := fsF j (i + 1)) (fs_g c149) ?_
                refine E_istore (l2 := [.ref 38, .int (nI a), .int (nI b), .int (nI c), .int (nI d'), .int (nI n), .int 0, .int (nI (cntS (bth a b c d') (min (i + 1) n))), .int (fsF j (i + 1)), .int (nI (i + 1)), .int 1]) dX7_nods_159 (by decide) rfl ?_
                refine E_iinc (y := nI (i + 1 + 1)) (l2 := [.ref 38, .int (nI a), .int (nI b), .int (nI c), .int (nI d'), .int (nI n), .int 0, .int (nI (cntS (bth a b c d') (min (i + 1) n))), .int (fsF j (i + 1)), .int (nI (i + 1 + 1)), .int 1]) dX7_nods_161 rfl (nI_1 _) (by decide) rfl ?_
                refine E_goto (tgt := 76) dX7_nods_164 (by decide) ?_
                exact ih _
              · refine E_iload dX7_nods_152 rfl ?_
                refine E_eqi (y := fsF j (i + 1)) (fs_t (p := (bth a b c d')) (by omega) hno (by simp [bth, slp, cb97, cb110]) c149) ?_
                refine E_goto (tgt := 159) dX7_nods_154 (by decide) ?_
                refine E_istore (l2 := [.ref 38, .int (nI a), .int (nI b), .int (nI c), .int (nI d'), .int (nI n), .int 0, .int (nI (cntS (bth a b c d') (min (i + 1) n))), .int (fsF j (i + 1)), .int (nI (i + 1)), .int 1]) dX7_nods_159 (by decide) rfl ?_
                refine E_iinc (y := nI (i + 1 + 1)) (l2 := [.ref 38, .int (nI a), .int (nI b), .int (nI c), .int (nI d'), .int (nI n), .int 0, .int (nI (cntS (bth a b c d') (min (i + 1) n))), .int (fsF j (i + 1)), .int (nI (i + 1 + 1)), .int 1]) dX7_nods_161 rfl (nI_1 _) (by decide) rfl ?_
                refine E_goto (tgt := 76) dX7_nods_164 (by decide) ?_
                exact ih _
            · have cb131 : i < n := Nat.lt_of_not_le (fun h => c131 (nI_lt (by omega) (by omega)))
              refine E_iconst (v := 1) dX7_nods_134 (by decide) ?_
              refine E_goto (tgt := 139) dX7_nods_135 (by decide) ?_
              refine E_iadd dX7_nods_139 ?_
              refine E_eqi (y := nI (cntS (bth a b c d') (min (i + 1) n))) (cm_t (p := (bth a b c d')) (by simp [bth, slp, cb97, cb110]) cb131) ?_
              refine E_istore (l2 := [.ref 38, .int (nI a), .int (nI b), .int (nI c), .int (nI d'), .int (nI n), .int 0, .int (nI (cntS (bth a b c d') (min (i + 1) n))), .int (fsF j i), .int (nI (i + 1)), .int 1]) dX7_nods_140 (by decide) rfl ?_
              refine E_iload dX7_nods_142 rfl ?_
              refine E_if_eq (tgt := 157) dX7_nods_144 (by decide) (fun c => by first | exact absurd c (by decide) | exact absurd (by decide) c) (fun _ => ?_)
              refine E_iload dX7_nods_147 rfl ?_
              refine E_if_ge (tgt := 157) dX7_nods_149 (by decide) (fun c149 => ?_) (fun c149 => ?_)
              · refine E_iload dX7_nods_157 rfl ?_
                refine E_eqi (y := fsF j (i + 1)) (fs_g c149) ?_
                refine E_istore (l2 := [.ref 38, .int (nI a), .int (nI b), .int (nI c), .int (nI d'), .int (nI n), .int 0, .int (nI (cntS (bth a b c d') (min (i + 1) n))), .int (fsF j (i + 1)), .int (nI (i + 1)), .int 1]) dX7_nods_159 (by decide) rfl ?_
                refine E_iinc (y := nI (i + 1 + 1)) (l2 := [.ref 38, .int (nI a), .int (nI b), .int (nI c), .int (nI d'), .int (nI n), .int 0, .int (nI (cntS (bth a b c d') (min (i + 1) n))), .int (fsF j (i + 1)), .int (nI (i + 1 + 1)), .int 1]) dX7_nods_161 rfl (nI_1 _) (by decide) rfl ?_
                refine E_goto (tgt := 76) dX7_nods_164 (by decide) ?_
                exact ih _
              · refine E_iload dX7_nods_152 rfl ?_
                refine E_eqi (y := fsF j (i + 1)) (fs_t (p := (bth a b c d')) (by omega) hno (by simp [bth, slp, cb97, cb110]) c149) ?_
                refine E_goto (tgt := 159) dX7_nods_154 (by decide) ?_
                refine E_istore (l2 := [.ref 38, .int (nI a), .int (nI b), .int (nI c), .int (nI d'), .int (nI n), .int 0, .int (nI (cntS (bth a b c d') (min (i + 1) n))), .int (fsF j (i + 1)), .int (nI (i + 1)), .int 1]) dX7_nods_159 (by decide) rfl ?_
                refine E_iinc (y := nI (i + 1 + 1)) (l2 := [.ref 38, .int (nI a), .int (nI b), .int (nI c), .int (nI d'), .int (nI n), .int 0, .int (nI (cntS (bth a b c d') (min (i + 1) n))), .int (fsF j (i + 1)), .int (nI (i + 1 + 1)), .int 1]) dX7_nods_161 rfl (nI_1 _) (by decide) rfl ?_
                refine E_goto (tgt := 76) dX7_nods_164 (by decide) ?_
                exact ih _
  refine E_iload_n dX7_nods_0 rfl ?_
  refine E_iconst (v := 1) dX7_nods_1 (by decide) ?_
  refine E_bipush (v := 9) dX7_nods_2 (by decide) ?_
  refine E_callS (As := [.int (nI a), .int 1, .int 9]) (l' := [.int (nI a), .int 1, .int 9]) (st := []) dX7_nods_4 kX7_48 sX7_in MX7_in rfl rfl (Nat.le_of_ble_eq_true rfl) (FC.use (c_in d _ _ _) rfl (L2 := [(38, .inr (7, [.ref 39, .ref 40, .int bu, .int (nI q), .ref 41, .int (nI pn), .ref 42, .int fl, .int fa, .int fw, .int fr, .int rs, .int ac, .ref 43, .ref 44, .ref 45, .ref 46, .ref 47, .ref 48, .ref 49]))]) rfl) (Nat.le_of_ble_eq_true rfl) (fun _ _ hq9 => E_fgo ?_ hq9)
  show E _ _ 7 [.ref 38, .int (nI a), .int (nI b), .int (nI c), .int (nI d'), .int (nI n), .int 0, .null, .null, .null, .null] [.int (b2i (inI (nI a) 1 9))] (hov hp [(38, .inr (7, [.ref 39, .ref 40, .int bu, .int (nI q), .ref 41, .int (nI pn), .ref 42, .int fl, .int fa, .int fw, .int fr, .int rs, .int ac, .ref 43, .ref 44, .ref 45, .ref 46, .ref 47, .ref 48, .ref 49]))]) _
  refine E_if_eq (tgt := 63) dX7_nods_7 (by decide) (fun c => (b2i_x1 h0 c).elim) (fun _ => ?_)
  refine E_iload_n dX7_nods_10 rfl ?_
  refine E_iconst (v := 1) dX7_nods_11 (by decide) ?_
  refine E_bipush (v := 9) dX7_nods_12 (by decide) ?_
  refine E_callS (As := [.int (nI b), .int 1, .int 9]) (l' := [.int (nI b), .int 1, .int 9]) (st := []) dX7_nods_14 kX7_48 sX7_in MX7_in rfl rfl (Nat.le_of_ble_eq_true rfl) (FC.use (c_in d _ _ _) rfl (L2 := [(38, .inr (7, [.ref 39, .ref 40, .int bu, .int (nI q), .ref 41, .int (nI pn), .ref 42, .int fl, .int fa, .int fw, .int fr, .int rs, .int ac, .ref 43, .ref 44, .ref 45, .ref 46, .ref 47, .ref 48, .ref 49]))]) rfl) (Nat.le_of_ble_eq_true rfl) (fun _ _ hq9 => E_fgo ?_ hq9)
  show E _ _ 17 [.ref 38, .int (nI a), .int (nI b), .int (nI c), .int (nI d'), .int (nI n), .int 0, .null, .null, .null, .null] [.int (b2i (inI (nI b) 1 9))] (hov hp [(38, .inr (7, [.ref 39, .ref 40, .int bu, .int (nI q), .ref 41, .int (nI pn), .ref 42, .int fl, .int fa, .int fw, .int fr, .int rs, .int ac, .ref 43, .ref 44, .ref 45, .ref 46, .ref 47, .ref 48, .ref 49]))]) _
  refine E_if_eq (tgt := 63) dX7_nods_17 (by decide) (fun c => (b2i_x1 h1 c).elim) (fun _ => ?_)
  refine E_iload_n dX7_nods_20 rfl ?_
  refine E_iconst (v := 1) dX7_nods_21 (by decide) ?_
  refine E_bipush (v := 9) dX7_nods_22 (by decide) ?_
  refine E_callS (As := [.int (nI c), .int 1, .int 9]) (l' := [.int (nI c), .int 1, .int 9]) (st := []) dX7_nods_24 kX7_48 sX7_in MX7_in rfl rfl (Nat.le_of_ble_eq_true rfl) (FC.use (c_in d _ _ _) rfl (L2 := [(38, .inr (7, [.ref 39, .ref 40, .int bu, .int (nI q), .ref 41, .int (nI pn), .ref 42, .int fl, .int fa, .int fw, .int fr, .int rs, .int ac, .ref 43, .ref 44, .ref 45, .ref 46, .ref 47, .ref 48, .ref 49]))]) rfl) (Nat.le_of_ble_eq_true rfl) (fun _ _ hq9 => E_fgo ?_ hq9)
  show E _ _ 27 [.ref 38, .int (nI a), .int (nI b), .int (nI c), .int (nI d'), .int (nI n), .int 0, .null, .null, .null, .null] [.int (b2i (inI (nI c) 1 9))] (hov hp [(38, .inr (7, [.ref 39, .ref 40, .int bu, .int (nI q), .ref 41, .int (nI pn), .ref 42, .int fl, .int fa, .int fw, .int fr, .int rs, .int ac, .ref 43, .ref 44, .ref 45, .ref 46, .ref 47, .ref 48, .ref 49]))]) _
  refine E_if_eq (tgt := 63) dX7_nods_27 (by decide) (fun c => (b2i_x1 h2 c).elim) (fun _ => ?_)
  refine E_iload dX7_nods_30 rfl ?_
  refine E_iconst (v := 1) dX7_nods_32 (by decide) ?_
  refine E_bipush (v := 9) dX7_nods_33 (by decide) ?_
  refine E_callS (As := [.int (nI d'), .int 1, .int 9]) (l' := [.int (nI d'), .int 1, .int 9]) (st := []) dX7_nods_35 kX7_48 sX7_in MX7_in rfl rfl (Nat.le_of_ble_eq_true rfl) (FC.use (c_in d _ _ _) rfl (L2 := [(38, .inr (7, [.ref 39, .ref 40, .int bu, .int (nI q), .ref 41, .int (nI pn), .ref 42, .int fl, .int fa, .int fw, .int fr, .int rs, .int ac, .ref 43, .ref 44, .ref 45, .ref 46, .ref 47, .ref 48, .ref 49]))]) rfl) (Nat.le_of_ble_eq_true rfl) (fun _ _ hq9 => E_fgo ?_ hq9)
  show E _ _ 38 [.ref 38, .int (nI a), .int (nI b), .int (nI c), .int (nI d'), .int (nI n), .int 0, .null, .null, .null, .null] [.int (b2i (inI (nI d') 1 9))] (hov hp [(38, .inr (7, [.ref 39, .ref 40, .int bu, .int (nI q), .ref 41, .int (nI pn), .ref 42, .int fl, .int fa, .int fw, .int fr, .int rs, .int ac, .ref 43, .ref 44, .ref 45, .ref 46, .ref 47, .ref 48, .ref 49]))]) _
  refine E_if_eq (tgt := 63) dX7_nods_38 (by decide) (fun c => (b2i_x1 h3 c).elim) (fun _ => ?_)
  refine E_iload dX7_nods_41 rfl ?_
  refine E_iconst (v := 0) dX7_nods_43 (by decide) ?_
  refine E_sipush (v := 9999) dX7_nods_44 (by decide) ?_
  refine E_callS (As := [.int (nI n), .int 0, .int 9999]) (l' := [.int (nI n), .int 0, .int 9999]) (st := []) dX7_nods_47 kX7_48 sX7_in MX7_in rfl rfl (Nat.le_of_ble_eq_true rfl) (FC.use (c_in d _ _ _) rfl (L2 := [(38, .inr (7, [.ref 39, .ref 40, .int bu, .int (nI q), .ref 41, .int (nI pn), .ref 42, .int fl, .int fa, .int fw, .int fr, .int rs, .int ac, .ref 43, .ref 44, .ref 45, .ref 46, .ref 47, .ref 48, .ref 49]))]) rfl) (Nat.le_of_ble_eq_true rfl) (fun _ _ hq9 => E_fgo ?_ hq9)
  show E _ _ 50 [.ref 38, .int (nI a), .int (nI b), .int (nI c), .int (nI d'), .int (nI n), .int 0, .null, .null, .null, .null] [.int (b2i (inI (nI n) 0 9999))] (hov hp [(38, .inr (7, [.ref 39, .ref 40, .int bu, .int (nI q), .ref 41, .int (nI pn), .ref 42, .int fl, .int fa, .int fw, .int fr, .int rs, .int ac, .ref 43, .ref 44, .ref 45, .ref 46, .ref 47, .ref 48, .ref 49]))]) _
  refine E_if_eq (tgt := 63) dX7_nods_50 (by decide) (fun c => (b2i_x1 h4 c).elim) (fun _ => ?_)
  refine E_iload dX7_nods_53 rfl ?_
  refine E_iconst (v := 0) dX7_nods_55 (by decide) ?_
  refine E_iconst (v := 1) dX7_nods_56 (by decide) ?_
  refine E_callS (As := [.int 0, .int 0, .int 1]) (l' := [.int 0, .int 0, .int 1]) (st := []) dX7_nods_57 kX7_48 sX7_in MX7_in rfl rfl (Nat.le_of_ble_eq_true rfl) (FC.use (c_in d _ _ _) rfl (L2 := [(38, .inr (7, [.ref 39, .ref 40, .int bu, .int (nI q), .ref 41, .int (nI pn), .ref 42, .int fl, .int fa, .int fw, .int fr, .int rs, .int ac, .ref 43, .ref 44, .ref 45, .ref 46, .ref 47, .ref 48, .ref 49]))]) rfl) (Nat.le_of_ble_eq_true rfl) (fun _ _ hq9 => E_fgo ?_ hq9)
  show E _ _ 60 [.ref 38, .int (nI a), .int (nI b), .int (nI c), .int (nI d'), .int (nI n), .int 0, .null, .null, .null, .null] [.int (b2i (inI 0 0 1))] (hov hp [(38, .inr (7, [.ref 39, .ref 40, .int bu, .int (nI q), .ref 41, .int (nI pn), .ref 42, .int fl, .int fa, .int fw, .int fr, .int rs, .int ac, .ref 43, .ref 44, .ref 45, .ref 46, .ref 47, .ref 48, .ref 49]))]) _
  refine E_if_ne (tgt := 66) dX7_nods_60 (by decide) (fun _ => ?_) (fun c => (b2i_x1 (by decide) c).elim)
  refine E_iconst (v := 0) dX7_nods_66 (by decide) ?_
  refine E_istore (l2 := [.ref 38, .int (nI a), .int (nI b), .int (nI c), .int (nI d'), .int (nI n), .int 0, .int 0, .null, .null, .null]) dX7_nods_67 (by decide) rfl ?_
  refine E_bipush (v := (-6)) dX7_nods_69 (by decide) ?_
  refine E_istore (l2 := [.ref 38, .int (nI a), .int (nI b), .int (nI c), .int (nI d'), .int (nI n), .int 0, .int 0, .int (-6), .null, .null]) dX7_nods_71 (by decide) rfl ?_
  refine E_iconst (v := 1) dX7_nods_73 (by decide) ?_
  refine E_istore (l2 := [.ref 38, .int (nI a), .int (nI b), .int (nI c), .int (nI d'), .int (nI n), .int 0, .int 0, .int (-6), .int 1, .null]) dX7_nods_74 (by decide) rfl ?_
  exact L 0 (Nat.zero_le _) _

set_option maxHeartbeats 4000000 in
set_option maxRecDepth 20000 in
theorem m_nods_1 (d : Nat) (bu fl fa fw fr rs ac : Int32) (q pn : Nat) (a b c d' n P j : Nat) (ha : 1 ≤ a) (ha2 : a ≤ 9) (hb : 1 ≤ b) (hb2 : b ≤ 9) (hc : 1 ≤ c) (hc2 : c ≤ 9) (hd : 1 ≤ d') (hd2 : d' ≤ 9) (hn : n < 10000) (hPe : (a + b) * (c + d') = P) (hP2 : P ≤ 324) (h0 : inI (nI a) 1 9 = true) (h1 : inI (nI b) 1 9 = true) (h2 : inI (nI c) 1 9 = true) (h3 : inI (nI d') 1 9 = true) (h4 : inI (nI n) 0 9999 = true) (hj : j < P) (hpj : bth a b c d' j = true) (hno : ∀ i, i < j → bth a b c d' i = false) : FC YX7_nods (d + 1) [.ref 38, .int (nI a), .int (nI b), .int (nI c), .int (nI d'), .int (nI n), .int 1, .null, .null, .null, .null] [(38, .inr (7, [.ref 39, .ref 40, .int bu, .int (nI q), .ref 41, .int (nI pn), .ref 42, .int fl, .int fa, .int fw, .int fr, .int rs, .int ac, .ref 43, .ref 44, .ref 45, .ref 46, .ref 47, .ref 48, .ref 49]))] (some (.int (nI (j + 1)))) [(38, .inr (7, [.ref 39, .ref 40, .int bu, .int (nI q), .ref 41, .int (nI pn), .ref 42, .int fl, .int fa, .int fw, .int fr, .int rs, .int ac, .ref 43, .ref 44, .ref 45, .ref 46, .ref 47, .ref 48, .ref 49]))] := by
  intro hp
  have L : ∀ i, i ≤ (max n (j + 1)) → ∀ l10 : Value, E YX7_nods (d + 1) 76 [.ref 38, .int (nI a), .int (nI b), .int (nI c), .int (nI d'), .int (nI n), .int 1, .int (nI (cntS (bth a b c d') (min i n))), .int (fsF j i), .int (nI (i + 1)), l10] [] (hov hp [(38, .inr (7, [.ref 39, .ref 40, .int bu, .int (nI q), .ref 41, .int (nI pn), .ref 42, .int fl, .int fa, .int fw, .int fr, .int rs, .int ac, .ref 43, .ref 44, .ref 45, .ref 46, .ref 47, .ref 48, .ref 49]))]) (fun v h' => v = some (.int (nI (j + 1))) ∧ h' = hov hp [(38, .inr (7, [.ref 39, .ref 40, .int bu, .int (nI q), .ref 41, .int (nI pn), .ref 42, .int fl, .int fa, .int fw, .int fr, .int rs, .int ac, .ref 43, .ref 44, .ref 45, .ref 46, .ref 47, .ref 48, .ref 49]))]) := by
    refine down (max n (j + 1)) ?_ ?_
    · intro l10
      refine E_iload dX7_nods_76 rfl ?_
      refine E_iload dX7_nods_78 rfl ?_
      refine E_icmp_le (tgt := 88) dX7_nods_80 (by decide) (fun c => absurd c (nI_ge (by omega) (by omega))) (fun _ => ?_)
      refine E_iload dX7_nods_83 rfl ?_
      refine E_if_ge (tgt := 167) dX7_nods_85 (by decide) (fun _ => ?_) (fun c => absurd (by rw [fs_gt (by omega)]; exact nI_le (a := 0) (Nat.zero_le _) (by omega)) c)
      refine E_iload dX7_nods_167 rfl ?_
      refine E_if_ne (tgt := 177) dX7_nods_169 (by decide) (fun _ => ?_) (fun c => by first | exact absurd c (by decide) | exact absurd (by decide) c)
      refine E_iload dX7_nods_177 rfl ?_
      exact E_iretf dX7_nods_179 rfl rfl (fs_gt (by omega)) rfl
    · intro i hi ih l10
      refine E_iload dX7_nods_76 rfl ?_
      refine E_iload dX7_nods_78 rfl ?_
      refine E_icmp_le (tgt := 88) dX7_nods_80 (by decide) (fun c80 => ?_) (fun c80 => ?_)
      · have cb80 : i < n := Nat.lt_of_not_le (fun h => nI_ge (by omega) (by omega) c80)
        refine E_iload dX7_nods_88 rfl ?_
        refine E_iconst (v := 1) dX7_nods_90 (by decide) ?_
        refine E_isub dX7_nods_91 ?_
        refine E_eqi (y := nI i) (nI_pred _) ?_
        refine E_iload_n dX7_nods_92 rfl ?_
        refine E_iload_n dX7_nods_93 rfl ?_
        refine E_iadd dX7_nods_94 ?_
        refine E_eqi (y := nI (a + b)) (nI_add _ _) ?_
        refine E_irem dX7_nods_95 (nI_ne0 (by omega) (by omega)) ?_
        refine E_eqi (y := nI (i % (a + b))) (nI_r (by omega) (by omega) (by omega)) ?_
        refine E_iload_n dX7_nods_96 rfl ?_
        refine E_icmp_lt (tgt := 117) dX7_nods_97 (by decide) (fun c97 => ?_) (fun c97 => ?_)
        · have cb97 : ¬ a ≤ i % (a + b) := fun h => nI_nlt h (by have := Nat.mod_lt i (show 0 < a + b by omega); omega) c97
          refine E_iconst (v := 0) dX7_nods_117 (by decide) ?_
          refine E_istore (l2 := [.ref 38, .int (nI a), .int (nI b), .int (nI c), .int (nI d'), .int (nI n), .int 1, .int (nI (cntS (bth a b c d') (min i n))), .int (fsF j i), .int (nI (i + 1)), .int 0]) dX7_nods_118 (by decide) rfl ?_
          refine E_iload dX7_nods_120 rfl ?_
          refine E_iload dX7_nods_122 rfl ?_
          refine E_if_eq (tgt := 138) dX7_nods_124 (by decide) (fun _ => ?_) (fun c => by first | exact absurd c (by decide) | exact absurd (by decide) c)
          refine E_iconst (v := 0) dX7_nods_138 (by decide) ?_
          refine E_iadd dX7_nods_139 ?_
          refine E_eqi (y := nI (cntS (bth a b c d') (min (i + 1) n))) (cm_f (p := (bth a b c d')) (by simp [bth, slp, cb97])) ?_
          refine E_istore (l2 := [.ref 38, .int (nI a), .int (nI b), .int (nI c), .int (nI d'), .int (nI n), .int 1, .int (nI (cntS (bth a b c d') (min (i + 1) n))), .int (fsF j i), .int (nI (i + 1)), .int 0]) dX7_nods_140 (by decide) rfl ?_
          refine E_iload dX7_nods_142 rfl ?_
          refine E_if_eq (tgt := 157) dX7_nods_144 (by decide) (fun _ => ?_) (fun c => by first | exact absurd c (by decide) | exact absurd (by decide) c)
          refine E_iload dX7_nods_157 rfl ?_
          refine E_eqi (y := fsF j (i + 1)) (fs_f (p := (bth a b c d')) hpj (by simp [bth, slp, cb97])) ?_
          refine E_istore (l2 := [.ref 38, .int (nI a), .int (nI b), .int (nI c), .int (nI d'), .int (nI n), .int 1, .int (nI (cntS (bth a b c d') (min (i + 1) n))), .int (fsF j (i + 1)), .int (nI (i + 1)), .int 0]) dX7_nods_159 (by decide) rfl ?_
          refine E_iinc (y := nI (i + 1 + 1)) (l2 := [.ref 38, .int (nI a), .int (nI b), .int (nI c), .int (nI d'), .int (nI n), .int 1, .int (nI (cntS (bth a b c d') (min (i + 1) n))), .int (fsF j (i + 1)), .int (nI (i + 1 + 1)), .int 0]) dX7_nods_161 rfl (nI_1 _) (by decide) rfl ?_
          refine E_goto (tgt := 76) dX7_nods_164 (by decide) ?_
          exact ih _
        · have cb97 : a ≤ i % (a + b) := Nat.le_of_not_lt (fun h => c97 (nI_lt h (by omega)))
          refine E_iload dX7_nods_100 rfl ?_
          refine E_iconst (v := 1) dX7_nods_102 (by decide) ?_
          refine E_isub dX7_nods_103 ?_
          refine E_eqi (y := nI i) (nI_pred _) ?_
          refine E_iload_n dX7_nods_104 rfl ?_
          refine E_iload dX7_nods_105 rfl ?_
          refine E_iadd dX7_nods_107 ?_
          refine E_eqi (y := nI (c + d')) (nI_add _ _) ?_
          refine E_irem dX7_nods_108 (nI_ne0 (by omega) (by omega)) ?_
          refine E_eqi (y := nI (i % (c + d'))) (nI_r (by omega) (by omega) (by omega)) ?_
          refine E_iload_n dX7_nods_109 rfl ?_
          refine E_icmp_lt (tgt := 117) dX7_nods_110 (by decide) (fun c110 => ?_) (fun c110 => ?_)
          · have cb110 : ¬ c ≤ i % (c + d') := fun h => nI_nlt h (by have := Nat.mod_lt i (show 0 < c + d' by omega); omega) c110
            refine E_iconst (v := 0) dX7_nods_117 (by decide) ?_
            refine E_istore (l2 := [.ref 38, .int (nI a), .int (nI b), .int (nI c), .int (nI d'), .int (nI n), .int 1, .int (nI (cntS (bth a b c d') (min i n))), .int (fsF j i), .int (nI (i + 1)), .int 0]) dX7_nods_118 (by decide) rfl ?_
            refine E_iload dX7_nods_120 rfl ?_
            refine E_iload dX7_nods_122 rfl ?_
            refine E_if_eq (tgt := 138) dX7_nods_124 (by decide) (fun _ => ?_) (fun c => by first | exact absurd c (by decide) | exact absurd (by decide) c)
            refine E_iconst (v := 0) dX7_nods_138 (by decide) ?_
            refine E_iadd dX7_nods_139 ?_
            refine E_eqi (y := nI (cntS (bth a b c d') (min (i + 1) n))) (cm_f (p := (bth a b c d')) (by simp [bth, slp, cb97, cb110])) ?_
            refine E_istore (l2 := [.ref 38, .int (nI a), .int (nI b), .int (nI c), .int (nI d'), .int (nI n), .int 1, .int (nI (cntS (bth a b c d') (min (i + 1) n))), .int (fsF j i), .int (nI (i + 1)), .int 0]) dX7_nods_140 (by decide) rfl ?_
            refine E_iload dX7_nods_142 rfl ?_
            refine E_if_eq (tgt := 157) dX7_nods_144 (by decide) (fun _ => ?_) (fun c => by first | exact absurd c (by decide) | exact absurd (by decide) c)
            refine E_iload dX7_nods_157 rfl ?_
            refine E_eqi (y := fsF j (i + 1)) (fs_f (p := (bth a b c d')) hpj (by simp [bth, slp, cb97, cb110])) ?_
            refine E_istore (l2 := [.ref 38, .int (nI a), .int (nI b), .int (nI c), .int (nI d'), .int (nI n), .int 1, .int (nI (cntS (bth a b c d') (min (i + 1) n))), .int (fsF j (i + 1)), .int (nI (i + 1)), .int 0]) dX7_nods_159 (by decide) rfl ?_
            refine E_iinc (y := nI (i + 1 + 1)) (l2 := [.ref 38, .int (nI a), .int (nI b), .int (nI c), .int (nI d'), .int (nI n), .int 1, .int (nI (cntS (bth a b c d') (min (i + 1) n))), .int (fsF j (i + 1)), .int (nI (i + 1 + 1)), .int 0]) dX7_nods_161 rfl (nI_1 _) (by decide) rfl ?_
            refine E_goto (tgt := 76) dX7_nods_164 (by decide) ?_
            exact ih _
          · have cb110 : c ≤ i % (c + d') := Nat.le_of_not_lt (fun h => c110 (nI_lt h (by omega)))
            refine E_iconst (v := 1) dX7_nods_113 (by decide) ?_
            refine E_goto (tgt := 118) dX7_nods_114 (by decide) ?_
            refine E_istore (l2 := [.ref 38, .int (nI a), .int (nI b), .int (nI c), .int (nI d'), .int (nI n), .int 1, .int (nI (cntS (bth a b c d') (min i n))), .int (fsF j i), .int (nI (i + 1)), .int 1]) dX7_nods_118 (by decide) rfl ?_
            refine E_iload dX7_nods_120 rfl ?_
            refine E_iload dX7_nods_122 rfl ?_
            refine E_if_eq (tgt := 138) dX7_nods_124 (by decide) (fun c => by first | exact absurd c (by decide) | exact absurd (by decide) c) (fun _ => ?_)
            refine E_iload dX7_nods_127 rfl ?_
            refine E_iload dX7_nods_129 rfl ?_
            refine E_icmp_gt (tgt := 138) dX7_nods_131 (by decide) (fun c131 => ?_) (fun c131 => ?_)
            · have cb131 : n ≤ i := Nat.le_of_not_lt (fun h => nI_nlt (by omega) (by omega) c131)
              refine E_iconst (v := 0) dX7_nods_138 (by decide) ?_
              refine E_iadd dX7_nods_139 ?_
              refine E_eqi (y := nI (cntS (bth a b c d') (min (i + 1) n))) (cm_g cb131) ?_
              refine E_istore (l2 := [.ref 38, .int (nI a), .int (nI b), .int (nI c), .int (nI d'), .int (nI n), .int 1, .int (nI (cntS (bth a b c d') (min (i + 1) n))), .int (fsF j i), .int (nI (i + 1)), .int 1]) dX7_nods_140 (by decide) rfl ?_
              refine E_iload dX7_nods_142 rfl ?_
              refine E_if_eq (tgt := 157) dX7_nods_144 (by decide) (fun c => by first | exact absurd c (by decide) | exact absurd (by decide) c) (fun _ => ?_)
              refine E_iload dX7_nods_147 rfl ?_
              refine E_if_ge (tgt := 157) dX7_nods_149 (by decide) (fun c149 => ?_) (fun c149 => ?_)
              · refine E_iload dX7_nods_157 rfl ?_
                refine E_eqi (y := fsF j (i + 1)) (fs_g c149) ?_
                refine E_istore (l2 := [.ref 38, .int (nI a), .int (nI b), .int (nI c), .int (nI d'), .int (nI n), .int 1, .int (nI (cntS (bth a b c d') (min (i + 1) n))), .int (fsF j (i + 1)), .int (nI (i + 1)), .int 1]) dX7_nods_159 (by decide) rfl ?_
                refine E_iinc (y := nI (i + 1 + 1)) (l2 := [.ref 38, .int (nI a), .int (nI b), .int (nI c), .int (nI d'), .int (nI n), .int 1, .int (nI (cntS (bth a b c d') (min (i + 1) n))), .int (fsF j (i + 1)), .int (nI (i + 1 + 1)), .int 1]) dX7_nods_161 rfl (nI_1 _) (by decide) rfl ?_
                refine E_goto (tgt := 76) dX7_nods_164 (by decide) ?_
                exact ih _
              · refine E_iload dX7_nods_152 rfl ?_
                refine E_eqi (y := fsF j (i + 1)) (fs_t (p := (bth a b c d')) (by omega) hno (by simp [bth, slp, cb97, cb110]) c149) ?_
                refine E_goto (tgt := 159) dX7_nods_154 (by decide) ?_
                refine E_istore (l2 := [.ref 38, .int (nI a), .int (nI b), .int (nI c), .int (nI d'), .int (nI n), .int 1, .int (nI (cntS (bth a b c d') (min (i + 1) n))), .int (fsF j (i + 1)), .int (nI (i + 1)), .int 1]) dX7_nods_159 (by decide) rfl ?_
                refine E_iinc (y := nI (i + 1 + 1)) (l2 := [.ref 38, .int (nI a), .int (nI b), .int (nI c), .int (nI d'), .int (nI n), .int 1, .int (nI (cntS (bth a b c d') (min (i + 1) n))), .int (fsF j (i + 1)), .int (nI (i + 1 + 1)), .int 1]) dX7_nods_161 rfl (nI_1 _) (by decide) rfl ?_
                refine E_goto (tgt := 76) dX7_nods_164 (by decide) ?_
                exact ih _
            · have cb131 : i < n := Nat.lt_of_not_le (fun h => c131 (nI_lt (by omega) (by omega)))
              refine E_iconst (v := 1) dX7_nods_134 (by decide) ?_
              refine E_goto (tgt := 139) dX7_nods_135 (by decide) ?_
              refine E_iadd dX7_nods_139 ?_
              refine E_eqi (y := nI (cntS (bth a b c d') (min (i + 1) n))) (cm_t (p := (bth a b c d')) (by simp [bth, slp, cb97, cb110]) cb131) ?_
              refine E_istore (l2 := [.ref 38, .int (nI a), .int (nI b), .int (nI c), .int (nI d'), .int (nI n), .int 1, .int (nI (cntS (bth a b c d') (min (i + 1) n))), .int (fsF j i), .int (nI (i + 1)), .int 1]) dX7_nods_140 (by decide) rfl ?_
              refine E_iload dX7_nods_142 rfl ?_
              refine E_if_eq (tgt := 157) dX7_nods_144 (by decide) (fun c => by first | exact absurd c (by decide) | exact absurd (by decide) c) (fun _ => ?_)
              refine E_iload dX7_nods_147 rfl ?_
              refine E_if_ge (tgt := 157) dX7_nods_149 (by decide) (fun c149 => ?_) (fun c149 => ?_)
              · refine E_iload dX7_nods_157 rfl ?_
                refine E_eqi (y := fsF j (i + 1)) (fs_g c149) ?_
                refine E_istore (l2 := [.ref 38, .int (nI a), .int (nI b), .int (nI c), .int (nI d'), .int (nI n), .int 1, .int (nI (cntS (bth a b c d') (min (i + 1) n))), .int (fsF j (i + 1)), .int (nI (i + 1)), .int 1]) dX7_nods_159 (by decide) rfl ?_
                refine E_iinc (y := nI (i + 1 + 1)) (l2 := [.ref 38, .int (nI a), .int (nI b), .int (nI c), .int (nI d'), .int (nI n), .int 1, .int (nI (cntS (bth a b c d') (min (i + 1) n))), .int (fsF j (i + 1)), .int (nI (i + 1 + 1)), .int 1]) dX7_nods_161 rfl (nI_1 _) (by decide) rfl ?_
                refine E_goto (tgt := 76) dX7_nods_164 (by decide) ?_
                exact ih _
              · refine E_iload dX7_nods_152 rfl ?_
                refine E_eqi (y := fsF j (i + 1)) (fs_t (p := (bth a b c d')) (by omega) hno (by simp [bth, slp, cb97, cb110]) c149) ?_
                refine E_goto (tgt := 159) dX7_nods_154 (by decide) ?_
                refine E_istore (l2 := [.ref 38, .int (nI a), .int (nI b), .int (nI c), .int (nI d'), .int (nI n), .int 1, .int (nI (cntS (bth a b c d') (min (i + 1) n))), .int (fsF j (i + 1)), .int (nI (i + 1)), .int 1]) dX7_nods_159 (by decide) rfl ?_
                refine E_iinc (y := nI (i + 1 + 1)) (l2 := [.ref 38, .int (nI a), .int (nI b), .int (nI c), .int (nI d'), .int (nI n), .int 1, .int (nI (cntS (bth a b c d') (min (i + 1) n))), .int (fsF j (i + 1)), .int (nI (i + 1 + 1)), .int 1]) dX7_nods_161 rfl (nI_1 _) (by decide) rfl ?_
                refine E_goto (tgt := 76) dX7_nods_164 (by decide) ?_
                exact ih _
      · have cb80 : n ≤ i := Nat.le_of_not_lt (fun h => c80 (nI_le (by omega) (by omega)))
        refine E_iload dX7_nods_83 rfl ?_
        refine E_if_ge (tgt := 167) dX7_nods_85 (by decide) (fun c => absurd c (by rw [fs_le (by omega)]; decide)) (fun _ => ?_)
        refine E_iload dX7_nods_88 rfl ?_
        refine E_iconst (v := 1) dX7_nods_90 (by decide) ?_
        refine E_isub dX7_nods_91 ?_
        refine E_eqi (y := nI i) (nI_pred _) ?_
        refine E_iload_n dX7_nods_92 rfl ?_
        refine E_iload_n dX7_nods_93 rfl ?_
        refine E_iadd dX7_nods_94 ?_
        refine E_eqi (y := nI (a + b)) (nI_add _ _) ?_
        refine E_irem dX7_nods_95 (nI_ne0 (by omega) (by omega)) ?_
        refine E_eqi (y := nI (i % (a + b))) (nI_r (by omega) (by omega) (by omega)) ?_
        refine E_iload_n dX7_nods_96 rfl ?_
        refine E_icmp_lt (tgt := 117) dX7_nods_97 (by decide) (fun c97 => ?_) (fun c97 => ?_)
        · have cb97 : ¬ a ≤ i % (a + b) := fun h => nI_nlt h (by have := Nat.mod_lt i (show 0 < a + b by omega); omega) c97
          refine E_iconst (v := 0) dX7_nods_117 (by decide) ?_
          refine E_istore (l2 := [.ref 38, .int (nI a), .int (nI b), .int (nI c), .int (nI d'), .int (nI n), .int 1, .int (nI (cntS (bth a b c d') (min i n))), .int (fsF j i), .int (nI (i + 1)), .int 0]) dX7_nods_118 (by decide) rfl ?_
          refine E_iload dX7_nods_120 rfl ?_
          refine E_iload dX7_nods_122 rfl ?_
          refine E_if_eq (tgt := 138) dX7_nods_124 (by decide) (fun _ => ?_) (fun c => by first | exact absurd c (by decide) | exact absurd (by decide) c)
          refine E_iconst (v := 0) dX7_nods_138 (by decide) ?_
          refine E_iadd dX7_nods_139 ?_
          refine E_eqi (y := nI (cntS (bth a b c d') (min (i + 1) n))) (cm_f (p := (bth a b c d')) (by simp [bth, slp, cb97])) ?_
          refine E_istore (l2 := [.ref 38, .int (nI a), .int (nI b), .int (nI c), .int (nI d'), .int (nI n), .int 1, .int (nI (cntS (bth a b c d') (min (i + 1) n))), .int (fsF j i), .int (nI (i + 1)), .int 0]) dX7_nods_140 (by decide) rfl ?_
          refine E_iload dX7_nods_142 rfl ?_
          refine E_if_eq (tgt := 157) dX7_nods_144 (by decide) (fun _ => ?_) (fun c => by first | exact absurd c (by decide) | exact absurd (by decide) c)
          refine E_iload dX7_nods_157 rfl ?_
          refine E_eqi (y := fsF j (i + 1)) (fs_f (p := (bth a b c d')) hpj (by simp [bth, slp, cb97])) ?_
          refine E_istore (l2 := [.ref 38, .int (nI a), .int (nI b), .int (nI c), .int (nI d'), .int (nI n), .int 1, .int (nI (cntS (bth a b c d') (min (i + 1) n))), .int (fsF j (i + 1)), .int (nI (i + 1)), .int 0]) dX7_nods_159 (by decide) rfl ?_
          refine E_iinc (y := nI (i + 1 + 1)) (l2 := [.ref 38, .int (nI a), .int (nI b), .int (nI c), .int (nI d'), .int (nI n), .int 1, .int (nI (cntS (bth a b c d') (min (i + 1) n))), .int (fsF j (i + 1)), .int (nI (i + 1 + 1)), .int 0]) dX7_nods_161 rfl (nI_1 _) (by decide) rfl ?_
          refine E_goto (tgt := 76) dX7_nods_164 (by decide) ?_
          exact ih _
        · have cb97 : a ≤ i % (a + b) := Nat.le_of_not_lt (fun h => c97 (nI_lt h (by omega)))
          refine E_iload dX7_nods_100 rfl ?_
          refine E_iconst (v := 1) dX7_nods_102 (by decide) ?_
          refine E_isub dX7_nods_103 ?_
          refine E_eqi (y := nI i) (nI_pred _) ?_
          refine E_iload_n dX7_nods_104 rfl ?_
          refine E_iload dX7_nods_105 rfl ?_
          refine E_iadd dX7_nods_107 ?_
          refine E_eqi (y := nI (c + d')) (nI_add _ _) ?_
          refine E_irem dX7_nods_108 (nI_ne0 (by omega) (by omega)) ?_
          refine E_eqi (y := nI (i % (c + d'))) (nI_r (by omega) (by omega) (by omega)) ?_
          refine E_iload_n dX7_nods_109 rfl ?_
          refine E_icmp_lt (tgt := 117) dX7_nods_110 (by decide) (fun c110 => ?_) (fun c110 => ?_)
          · have cb110 : ¬ c ≤ i % (c + d') := fun h => nI_nlt h (by have := Nat.mod_lt i (show 0 < c + d' by omega); omega) c110
            refine E_iconst (v := 0) dX7_nods_117 (by decide) ?_
            refine E_istore (l2 := [.ref 38, .int (nI a), .int (nI b), .int (nI c), .int (nI d'), .int (nI n), .int 1, .int (nI (cntS (bth a b c d') (min i n))), .int (fsF j i), .int (nI (i + 1)), .int 0]) dX7_nods_118 (by decide) rfl ?_
            refine E_iload dX7_nods_120 rfl ?_
            refine E_iload dX7_nods_122 rfl ?_
            refine E_if_eq (tgt := 138) dX7_nods_124 (by decide) (fun _ => ?_) (fun c => by first | exact absurd c (by decide) | exact absurd (by decide) c)
            refine E_iconst (v := 0) dX7_nods_138 (by decide) ?_
            refine E_iadd dX7_nods_139 ?_
            refine E_eqi (y := nI (cntS (bth a b c d') (min (i + 1) n))) (cm_f (p := (bth a b c d')) (by simp [bth, slp, cb97, cb110])) ?_
            refine E_istore (l2 := [.ref 38, .int (nI a), .int (nI b), .int (nI c), .int (nI d'), .int (nI n), .int 1, .int (nI (cntS (bth a b c d') (min (i + 1) n))), .int (fsF j i), .int (nI (i + 1)), .int 0]) dX7_nods_140 (by decide) rfl ?_
            refine E_iload dX7_nods_142 rfl ?_
            refine E_if_eq (tgt := 157) dX7_nods_144 (by decide) (fun _ => ?_) (fun c => by first | exact absurd c (by decide) | exact absurd (by decide) c)
            refine E_iload dX7_nods_157 rfl ?_
            refine E_eqi (y := fsF j (i + 1)) (fs_f (p := (bth a b c d')) hpj (by simp [bth, slp, cb97, cb110])) ?_
            refine E_istore (l2 := [.ref 38, .int (nI a), .int (nI b), .int (nI c), .int (nI d'), .int (nI n), .int 1, .int (nI (cntS (bth a b c d') (min (i + 1) n))), .int (fsF j (i + 1)), .int (nI (i + 1)), .int 0]) dX7_nods_159 (by decide) rfl ?_
            refine E_iinc (y := nI (i + 1 + 1)) (l2 := [.ref 38, .int (nI a), .int (nI b), .int (nI c), .int (nI d'), .int (nI n), .int 1, .int (nI (cntS (bth a b c d') (min (i + 1) n))), .int (fsF j (i + 1)), .int (nI (i + 1 + 1)), .int 0]) dX7_nods_161 rfl (nI_1 _) (by decide) rfl ?_
            refine E_goto (tgt := 76) dX7_nods_164 (by decide) ?_
            exact ih _
          · have cb110 : c ≤ i % (c + d') := Nat.le_of_not_lt (fun h => c110 (nI_lt h (by omega)))
            refine E_iconst (v := 1) dX7_nods_113 (by decide) ?_
            refine E_goto (tgt := 118) dX7_nods_114 (by decide) ?_
            refine E_istore (l2 := [.ref 38, .int (nI a), .int (nI b), .int (nI c), .int (nI d'), .int (nI n), .int 1, .int (nI (cntS (bth a b c d') (min i n))), .int (fsF j i), .int (nI (i + 1)), .int 1]) dX7_nods_118 (by decide) rfl ?_
            refine E_iload dX7_nods_120 rfl ?_
            refine E_iload dX7_nods_122 rfl ?_
            refine E_if_eq (tgt := 138) dX7_nods_124 (by decide) (fun c => by first | exact absurd c (by decide) | exact absurd (by decide) c) (fun _ => ?_)
            refine E_iload dX7_nods_127 rfl ?_
            refine E_iload dX7_nods_129 rfl ?_
            refine E_icmp_gt (tgt := 138) dX7_nods_131 (by decide) (fun c131 => ?_) (fun c131 => ?_)
            · have cb131 : n ≤ i := Nat.le_of_not_lt (fun h => nI_nlt (by omega) (by omega) c131)
              refine E_iconst (v := 0) dX7_nods_138 (by decide) ?_
              refine E_iadd dX7_nods_139 ?_
              refine E_eqi (y := nI (cntS (bth a b c d') (min (i + 1) n))) (cm_g cb131) ?_
              refine E_istore (l2 := [.ref 38, .int (nI a), .int (nI b), .int (nI c), .int (nI d'), .int (nI n), .int 1, .int (nI (cntS (bth a b c d') (min (i + 1) n))), .int (fsF j i), .int (nI (i + 1)), .int 1]) dX7_nods_140 (by decide) rfl ?_
              refine E_iload dX7_nods_142 rfl ?_
              refine E_if_eq (tgt := 157) dX7_nods_144 (by decide) (fun c => by first | exact absurd c (by decide) | exact absurd (by decide) c) (fun _ => ?_)
              refine E_iload dX7_nods_147 rfl ?_
              refine E_if_ge (tgt := 157) dX7_nods_149 (by decide) (fun c149 => ?_) (fun c149 => ?_)
              · refine E_iload dX7_nods_157 rfl ?_
                refine E_eqi (y := fsF j (i + 1)) (fs_g c149) ?_
                refine E_istore (l2 := [.ref 38, .int (nI a), .int (nI b), .int (nI c), .int (nI d'), .int (nI n), .int 1, .int (nI (cntS (bth a b c d') (min (i + 1) n))), .int (fsF j (i + 1)), .int (nI (i + 1)), .int 1]) dX7_nods_159 (by decide) rfl ?_
                refine E_iinc (y := nI (i + 1 + 1)) (l2 := [.ref 38, .int (nI a), .int (nI b), .int (nI c), .int (nI d'), .int (nI n), .int 1, .int (nI (cntS (bth a b c d') (min (i + 1) n))), .int (fsF j (i + 1)), .int (nI (i + 1 + 1)), .int 1]) dX7_nods_161 rfl (nI_1 _) (by decide) rfl ?_
                refine E_goto (tgt := 76) dX7_nods_164 (by decide) ?_
                exact ih _
              · refine E_iload dX7_nods_152 rfl ?_
                refine E_eqi (y := fsF j (i + 1)) (fs_t (p := (bth a b c d')) (by omega) hno (by simp [bth, slp, cb97, cb110]) c149) ?_
                refine E_goto (tgt := 159) dX7_nods_154 (by decide) ?_
                refine E_istore (l2 := [.ref 38, .int (nI a), .int (nI b), .int (nI c), .int (nI d'), .int (nI n), .int 1, .int (nI (cntS (bth a b c d') (min (i + 1) n))), .int (fsF j (i + 1)), .int (nI (i + 1)), .int 1]) dX7_nods_159 (by decide) rfl ?_
                refine E_iinc (y := nI (i + 1 + 1)) (l2 := [.ref 38, .int (nI a), .int (nI b), .int (nI c), .int (nI d'), .int (nI n), .int 1, .int (nI (cntS (bth a b c d') (min (i + 1) n))), .int (fsF j (i + 1)), .int (nI (i + 1 + 1)), .int 1]) dX7_nods_161 rfl (nI_1 _) (by decide) rfl ?_
                refine E_goto (tgt := 76) dX7_nods_164 (by decide) ?_
                exact ih _
            · have cb131 : i < n := Nat.lt_of_not_le (fun h => c131 (nI_lt (by omega) (by omega)))
              refine E_iconst (v := 1) dX7_nods_134 (by decide) ?_
              refine E_goto (tgt := 139) dX7_nods_135 (by decide) ?_
              refine E_iadd dX7_nods_139 ?_
              refine E_eqi (y := nI (cntS (bth a b c d') (min (i + 1) n))) (cm_t (p := (bth a b c d')) (by simp [bth, slp, cb97, cb110]) cb131) ?_
              refine E_istore (l2 := [.ref 38, .int (nI a), .int (nI b), .int (nI c), .int (nI d'), .int (nI n), .int 1, .int (nI (cntS (bth a b c d') (min (i + 1) n))), .int (fsF j i), .int (nI (i + 1)), .int 1]) dX7_nods_140 (by decide) rfl ?_
              refine E_iload dX7_nods_142 rfl ?_
              refine E_if_eq (tgt := 157) dX7_nods_144 (by decide) (fun c => by first | exact absurd c (by decide) | exact absurd (by decide) c) (fun _ => ?_)
              refine E_iload dX7_nods_147 rfl ?_
              refine E_if_ge (tgt := 157) dX7_nods_149 (by decide) (fun c149 => ?_) (fun c149 => ?_)
              · refine E_iload dX7_nods_157 rfl ?_
                refine E_eqi (y := fsF j (i + 1)) (fs_g c149) ?_
                refine E_istore (l2 := [.ref 38, .int (nI a), .int (nI b), .int (nI c), .int (nI d'), .int (nI n), .int 1, .int (nI (cntS (bth a b c d') (min (i + 1) n))), .int (fsF j (i + 1)), .int (nI (i + 1)), .int 1]) dX7_nods_159 (by decide) rfl ?_
                refine E_iinc (y := nI (i + 1 + 1)) (l2 := [.ref 38, .int (nI a), .int (nI b), .int (nI c), .int (nI d'), .int (nI n), .int 1, .int (nI (cntS (bth a b c d') (min (i + 1) n))), .int (fsF j (i + 1)), .int (nI (i + 1 + 1)), .int 1]) dX7_nods_161 rfl (nI_1 _) (by decide) rfl ?_
                refine E_goto (tgt := 76) dX7_nods_164 (by decide) ?_
                exact ih _
              · refine E_iload dX7_nods_152 rfl ?_
                refine E_eqi (y := fsF j (i + 1)) (fs_t (p := (bth a b c d')) (by omega) hno (by simp [bth, slp, cb97, cb110]) c149) ?_
                refine E_goto (tgt := 159) dX7_nods_154 (by decide) ?_
                refine E_istore (l2 := [.ref 38, .int (nI a), .int (nI b), .int (nI c), .int (nI d'), .int (nI n), .int 1, .int (nI (cntS (bth a b c d') (min (i + 1) n))), .int (fsF j (i + 1)), .int (nI (i + 1)), .int 1]) dX7_nods_159 (by decide) rfl ?_
                refine E_iinc (y := nI (i + 1 + 1)) (l2 := [.ref 38, .int (nI a), .int (nI b), .int (nI c), .int (nI d'), .int (nI n), .int 1, .int (nI (cntS (bth a b c d') (min (i + 1) n))), .int (fsF j (i + 1)), .int (nI (i + 1 + 1)), .int 1]) dX7_nods_161 rfl (nI_1 _) (by decide) rfl ?_
                refine E_goto (tgt := 76) dX7_nods_164 (by decide) ?_
                exact ih _
  refine E_iload_n dX7_nods_0 rfl ?_
  refine E_iconst (v := 1) dX7_nods_1 (by decide) ?_
  refine E_bipush (v := 9) dX7_nods_2 (by decide) ?_
  refine E_callS (As := [.int (nI a), .int 1, .int 9]) (l' := [.int (nI a), .int 1, .int 9]) (st := []) dX7_nods_4 kX7_48 sX7_in MX7_in rfl rfl (Nat.le_of_ble_eq_true rfl) (FC.use (c_in d _ _ _) rfl (L2 := [(38, .inr (7, [.ref 39, .ref 40, .int bu, .int (nI q), .ref 41, .int (nI pn), .ref 42, .int fl, .int fa, .int fw, .int fr, .int rs, .int ac, .ref 43, .ref 44, .ref 45, .ref 46, .ref 47, .ref 48, .ref 49]))]) rfl) (Nat.le_of_ble_eq_true rfl) (fun _ _ hq9 => E_fgo ?_ hq9)
  show E _ _ 7 [.ref 38, .int (nI a), .int (nI b), .int (nI c), .int (nI d'), .int (nI n), .int 1, .null, .null, .null, .null] [.int (b2i (inI (nI a) 1 9))] (hov hp [(38, .inr (7, [.ref 39, .ref 40, .int bu, .int (nI q), .ref 41, .int (nI pn), .ref 42, .int fl, .int fa, .int fw, .int fr, .int rs, .int ac, .ref 43, .ref 44, .ref 45, .ref 46, .ref 47, .ref 48, .ref 49]))]) _
  refine E_if_eq (tgt := 63) dX7_nods_7 (by decide) (fun c => (b2i_x1 h0 c).elim) (fun _ => ?_)
  refine E_iload_n dX7_nods_10 rfl ?_
  refine E_iconst (v := 1) dX7_nods_11 (by decide) ?_
  refine E_bipush (v := 9) dX7_nods_12 (by decide) ?_
  refine E_callS (As := [.int (nI b), .int 1, .int 9]) (l' := [.int (nI b), .int 1, .int 9]) (st := []) dX7_nods_14 kX7_48 sX7_in MX7_in rfl rfl (Nat.le_of_ble_eq_true rfl) (FC.use (c_in d _ _ _) rfl (L2 := [(38, .inr (7, [.ref 39, .ref 40, .int bu, .int (nI q), .ref 41, .int (nI pn), .ref 42, .int fl, .int fa, .int fw, .int fr, .int rs, .int ac, .ref 43, .ref 44, .ref 45, .ref 46, .ref 47, .ref 48, .ref 49]))]) rfl) (Nat.le_of_ble_eq_true rfl) (fun _ _ hq9 => E_fgo ?_ hq9)
  show E _ _ 17 [.ref 38, .int (nI a), .int (nI b), .int (nI c), .int (nI d'), .int (nI n), .int 1, .null, .null, .null, .null] [.int (b2i (inI (nI b) 1 9))] (hov hp [(38, .inr (7, [.ref 39, .ref 40, .int bu, .int (nI q), .ref 41, .int (nI pn), .ref 42, .int fl, .int fa, .int fw, .int fr, .int rs, .int ac, .ref 43, .ref 44, .ref 45, .ref 46, .ref 47, .ref 48, .ref 49]))]) _
  refine E_if_eq (tgt := 63) dX7_nods_17 (by decide) (fun c => (b2i_x1 h1 c).elim) (fun _ => ?_)
  refine E_iload_n dX7_nods_20 rfl ?_
  refine E_iconst (v := 1) dX7_nods_21 (by decide) ?_
  refine E_bipush (v := 9) dX7_nods_22 (by decide) ?_
  refine E_callS (As := [.int (nI c), .int 1, .int 9]) (l' := [.int (nI c), .int 1, .int 9]) (st := []) dX7_nods_24 kX7_48 sX7_in MX7_in rfl rfl (Nat.le_of_ble_eq_true rfl) (FC.use (c_in d _ _ _) rfl (L2 := [(38, .inr (7, [.ref 39, .ref 40, .int bu, .int (nI q), .ref 41, .int (nI pn), .ref 42, .int fl, .int fa, .int fw, .int fr, .int rs, .int ac, .ref 43, .ref 44, .ref 45, .ref 46, .ref 47, .ref 48, .ref 49]))]) rfl) (Nat.le_of_ble_eq_true rfl) (fun _ _ hq9 => E_fgo ?_ hq9)
  show E _ _ 27 [.ref 38, .int (nI a), .int (nI b), .int (nI c), .int (nI d'), .int (nI n), .int 1, .null, .null, .null, .null] [.int (b2i (inI (nI c) 1 9))] (hov hp [(38, .inr (7, [.ref 39, .ref 40, .int bu, .int (nI q), .ref 41, .int (nI pn), .ref 42, .int fl, .int fa, .int fw, .int fr, .int rs, .int ac, .ref 43, .ref 44, .ref 45, .ref 46, .ref 47, .ref 48, .ref 49]))]) _
  refine E_if_eq (tgt := 63) dX7_nods_27 (by decide) (fun c => (b2i_x1 h2 c).elim) (fun _ => ?_)
  refine E_iload dX7_nods_30 rfl ?_
  refine E_iconst (v := 1) dX7_nods_32 (by decide) ?_
  refine E_bipush (v := 9) dX7_nods_33 (by decide) ?_
  refine E_callS (As := [.int (nI d'), .int 1, .int 9]) (l' := [.int (nI d'), .int 1, .int 9]) (st := []) dX7_nods_35 kX7_48 sX7_in MX7_in rfl rfl (Nat.le_of_ble_eq_true rfl) (FC.use (c_in d _ _ _) rfl (L2 := [(38, .inr (7, [.ref 39, .ref 40, .int bu, .int (nI q), .ref 41, .int (nI pn), .ref 42, .int fl, .int fa, .int fw, .int fr, .int rs, .int ac, .ref 43, .ref 44, .ref 45, .ref 46, .ref 47, .ref 48, .ref 49]))]) rfl) (Nat.le_of_ble_eq_true rfl) (fun _ _ hq9 => E_fgo ?_ hq9)
  show E _ _ 38 [.ref 38, .int (nI a), .int (nI b), .int (nI c), .int (nI d'), .int (nI n), .int 1, .null, .null, .null, .null] [.int (b2i (inI (nI d') 1 9))] (hov hp [(38, .inr (7, [.ref 39, .ref 40, .int bu, .int (nI q), .ref 41, .int (nI pn), .ref 42, .int fl, .int fa, .int fw, .int fr, .int rs, .int ac, .ref 43, .ref 44, .ref 45, .ref 46, .ref 47, .ref 48, .ref 49]))]) _
  refine E_if_eq (tgt := 63) dX7_nods_38 (by decide) (fun c => (b2i_x1 h3 c).elim) (fun _ => ?_)
  refine E_iload dX7_nods_41 rfl ?_
  refine E_iconst (v := 0) dX7_nods_43 (by decide) ?_
  refine E_sipush (v := 9999) dX7_nods_44 (by decide) ?_
  refine E_callS (As := [.int (nI n), .int 0, .int 9999]) (l' := [.int (nI n), .int 0, .int 9999]) (st := []) dX7_nods_47 kX7_48 sX7_in MX7_in rfl rfl (Nat.le_of_ble_eq_true rfl) (FC.use (c_in d _ _ _) rfl (L2 := [(38, .inr (7, [.ref 39, .ref 40, .int bu, .int (nI q), .ref 41, .int (nI pn), .ref 42, .int fl, .int fa, .int fw, .int fr, .int rs, .int ac, .ref 43, .ref 44, .ref 45, .ref 46, .ref 47, .ref 48, .ref 49]))]) rfl) (Nat.le_of_ble_eq_true rfl) (fun _ _ hq9 => E_fgo ?_ hq9)
  show E _ _ 50 [.ref 38, .int (nI a), .int (nI b), .int (nI c), .int (nI d'), .int (nI n), .int 1, .null, .null, .null, .null] [.int (b2i (inI (nI n) 0 9999))] (hov hp [(38, .inr (7, [.ref 39, .ref 40, .int bu, .int (nI q), .ref 41, .int (nI pn), .ref 42, .int fl, .int fa, .int fw, .int fr, .int rs, .int ac, .ref 43, .ref 44, .ref 45, .ref 46, .ref 47, .ref 48, .ref 49]))]) _
  refine E_if_eq (tgt := 63) dX7_nods_50 (by decide) (fun c => (b2i_x1 h4 c).elim) (fun _ => ?_)
  refine E_iload dX7_nods_53 rfl ?_
  refine E_iconst (v := 0) dX7_nods_55 (by decide) ?_
  refine E_iconst (v := 1) dX7_nods_56 (by decide) ?_
  refine E_callS (As := [.int 1, .int 0, .int 1]) (l' := [.int 1, .int 0, .int 1]) (st := []) dX7_nods_57 kX7_48 sX7_in MX7_in rfl rfl (Nat.le_of_ble_eq_true rfl) (FC.use (c_in d _ _ _) rfl (L2 := [(38, .inr (7, [.ref 39, .ref 40, .int bu, .int (nI q), .ref 41, .int (nI pn), .ref 42, .int fl, .int fa, .int fw, .int fr, .int rs, .int ac, .ref 43, .ref 44, .ref 45, .ref 46, .ref 47, .ref 48, .ref 49]))]) rfl) (Nat.le_of_ble_eq_true rfl) (fun _ _ hq9 => E_fgo ?_ hq9)
  show E _ _ 60 [.ref 38, .int (nI a), .int (nI b), .int (nI c), .int (nI d'), .int (nI n), .int 1, .null, .null, .null, .null] [.int (b2i (inI 1 0 1))] (hov hp [(38, .inr (7, [.ref 39, .ref 40, .int bu, .int (nI q), .ref 41, .int (nI pn), .ref 42, .int fl, .int fa, .int fw, .int fr, .int rs, .int ac, .ref 43, .ref 44, .ref 45, .ref 46, .ref 47, .ref 48, .ref 49]))]) _
  refine E_if_ne (tgt := 66) dX7_nods_60 (by decide) (fun _ => ?_) (fun c => (b2i_x1 (by decide) c).elim)
  refine E_iconst (v := 0) dX7_nods_66 (by decide) ?_
  refine E_istore (l2 := [.ref 38, .int (nI a), .int (nI b), .int (nI c), .int (nI d'), .int (nI n), .int 1, .int 0, .null, .null, .null]) dX7_nods_67 (by decide) rfl ?_
  refine E_bipush (v := (-6)) dX7_nods_69 (by decide) ?_
  refine E_istore (l2 := [.ref 38, .int (nI a), .int (nI b), .int (nI c), .int (nI d'), .int (nI n), .int 1, .int 0, .int (-6), .null, .null]) dX7_nods_71 (by decide) rfl ?_
  refine E_iconst (v := 1) dX7_nods_73 (by decide) ?_
  refine E_istore (l2 := [.ref 38, .int (nI a), .int (nI b), .int (nI c), .int (nI d'), .int (nI n), .int 1, .int 0, .int (-6), .int 1, .null]) dX7_nods_74 (by decide) rfl ?_
  exact L 0 (Nat.zero_le _) _
