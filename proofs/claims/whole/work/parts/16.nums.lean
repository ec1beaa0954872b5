/-! nights asleep; rows of turfs; fractions -/
def slp (a b k : Nat) : Bool := decide (a ≤ k % (a + b))
def bth (a b c d k : Nat) : Bool := slp a b k && slp c d k
def cntS (p : Nat → Bool) : Nat → Nat
  | 0 => 0
  | i + 1 => cntS p i + (bif p i then 1 else 0)
theorem cntS_t {p : Nat → Bool} {i : Nat} (h : p i = true) : cntS p (i + 1) = cntS p i + 1 := by rw [cntS, h]; rfl
theorem cntS_f {p : Nat → Bool} {i : Nat} (h : p i = false) : cntS p (i + 1) = cntS p i := by rw [cntS, h]; rfl
theorem cntS_le (p : Nat → Bool) : ∀ i, cntS p i ≤ i
  | 0 => Nat.le_refl _
  | i + 1 => by
    have := cntS_le p i
    rw [cntS]
    cases p i <;> simp <;> omega
def kT : List Nat := [0, 1, 2, 3, 1, 4, 3, 2, 1, 4, 2, 6, 4, 1, 2, 7, 1, 4, 3, 2, 1, 4, 6, 7, 4, 1, 2, 8, 5, 4, 7, 2, 1, 8, 6, 7, 4, 1, 2, 3, 1, 4, 7, 2, 1, 8, 2, 7, 4, 1, 2, 8, 1, 4, 7, 2, 1, 4, 2, 7, 4]
def K (i : Nat) : Nat := kT.getD i 0
def xr (row t i : Nat) : Int32 := nI (K i) ^^^ nI (K (row - t - i))
def rc (row t : Nat) (r0 : Int64) : Nat → Int64
  | 0 => r0
  | i + 1 => rc row t r0 i ||| (1 <<< ((xr row t i).toInt64 &&& 63))
def rcF (row : Nat) : Int64 := rc row 2 (rc row 1 0 row) (row - 1)
def btz (r : Int64) (j : Nat) : Bool := decide (((r >>> ((nI j).toInt64 &&& 63)) &&& 1) = 0)
set_option maxRecDepth 100000 in
theorem lnr_ok : ∀ row, row < 61 → 1 ≤ row → (∀ j, j < K row → btz (rcF row) j = false) ∧ btz (rcF row) (K row) = true ∧ K row < 63 := by decide +kernel
set_option maxRecDepth 100000 in
theorem K_lt : ∀ i, i < 61 → K i < 16 := by decide +kernel
def rvK (rv : Nat → Int32) (rk m : Nat) : Nat → Int32 := fun j => if rk ≤ j ∧ j < m then nI (K j) else rv j
theorem rvK_0 (rv : Nat → Int32) (rk : Nat) : rvK rv rk rk = rv := by
  funext j
  simp only [rvK]
  rw [if_neg (by omega)]
theorem rvK_s {rv : Nat → Int32} {rk m : Nat} (h : rk ≤ m) : upd (rvK rv rk m) m (nI (K m)) = rvK rv rk (m + 1) := by
  funext j
  simp only [upd, rvK]
  by_cases e : j = m
  · subst e; rw [if_pos rfl, if_pos (by omega)]
  · rw [if_neg e]
    by_cases e2 : rk ≤ j ∧ j < m
    · rw [if_pos e2, if_pos (by omega)]
    · rw [if_neg e2, if_neg (by omega)]
theorem rvK_g {rv : Nat → Int32} {rk m : Nat} (h : ∀ i, i < rk → rv i = nI (K i)) {i : Nat} (hi : i < m) : rvK rv rk m i = nI (K i) := by
  simp only [rvK]
  by_cases e : rk ≤ i ∧ i < m
  · rw [if_pos e]
  · rw [if_neg e]; exact h i (by omega)
def wtF (n t : Nat) (D : Int32) : Nat → Nat → Int32
  | 0, _ => D
  | k + 1, i => if K i = K (n - t - i) then nI (100 * t + i) else wtF n t D k (i + 1)
def wtR (n : Nat) : Int32 := wtF n 1 (wtF n 2 (-6) (n - 1) 0) n 0
def gd : Nat → Int64 → Int64 → Int64
  | 0, a, _ => a
  | k + 1, a, b => if b = 0 then a else gd k b (rmL a b)
def ilt (u w : Int64) (part : Int32) : Int64 := if gd 1000 u w = 0 then (if part = 0 then u else w) else (if part = 0 then u else w) / gd 1000 u w
def pwL (b : Int64) : Nat → Int64
  | 0 => 1
  | i + 1 => pwL b i * b

set_option maxHeartbeats 4000000 in
set_option maxRecDepth 20000 in
theorem c_isAsleep (d : Nat) (a b k : Nat) (ha : 1 ≤ a) (ha2 : a ≤ 9) (hb : 1 ≤ b) (hb2 : b ≤ 9) (hk : k < 20000) : FC YX6_isAsleep d [.int (nI a), .int (nI b), .int (nI (k + 1)), .null] [] (some (.int (b2i (slp a b k)))) [] := by
  intro hp
  refine E_iload_n dX6_isAsleep_0 rfl ?_
  refine E_iload_n dX6_isAsleep_1 rfl ?_
  refine E_iadd dX6_isAsleep_2 ?_
  refine E_eqi (y := nI (a + b)) (nI_add _ _) ?_
  refine E_istore_n (l2 := [.int (nI a), .int (nI b), .int (nI (k + 1)), .int (nI (a + b))]) dX6_isAsleep_3 rfl (by decide) rfl ?_
  refine E_iload_n dX6_isAsleep_4 rfl ?_
  refine E_if_le (tgt := 21) dX6_isAsleep_5 (by decide) (fun c => absurd c (nI_nle (by omega) (by omega))) (fun _ => ?_)
  refine E_iload_n dX6_isAsleep_8 rfl ?_
  refine E_iconst (v := 1) dX6_isAsleep_9 (by decide) ?_
  refine E_isub dX6_isAsleep_10 ?_
  refine E_eqi (y := nI k) (nI_pred _) ?_
  refine E_iload_n dX6_isAsleep_11 rfl ?_
  refine E_irem dX6_isAsleep_12 (nI_ne0 (by omega) (by omega)) ?_
  refine E_eqi (y := nI (k % (a + b))) (nI_r (by omega) (by omega) (by omega)) ?_
  refine E_iload_n dX6_isAsleep_13 rfl ?_
  refine E_icmp_lt (tgt := 21) dX6_isAsleep_14 (by decide) (fun c14 => ?_) (fun c14 => ?_)
  · have c14 : ¬ a ≤ k % (a + b) := fun h => nI_nlt h (by have := Nat.mod_lt k (show 0 < a + b by omega); omega) c14
    refine E_iconst (v := 0) dX6_isAsleep_21 (by decide) ?_
    exact E_iretf dX6_isAsleep_22 rfl (b2i_nar _) (by simp [slp, b2i, c14]) rfl
  · have c14 : a ≤ k % (a + b) := Nat.le_of_not_lt (fun h => c14 (nI_lt h (by omega)))
    refine E_iconst (v := 1) dX6_isAsleep_17 (by decide) ?_
    refine E_goto (tgt := 22) dX6_isAsleep_18 (by decide) ?_
    exact E_iretf dX6_isAsleep_22 rfl (b2i_nar _) (by simp [slp, b2i, c14]) rfl

set_option maxHeartbeats 4000000 in
set_option maxRecDepth 20000 in
theorem c_nightsAsleep (d : Nat) (a b c d' n : Nat) (ha : 1 ≤ a) (ha2 : a ≤ 9) (hb : 1 ≤ b) (hb2 : b ≤ 9) (hc : 1 ≤ c) (hc2 : c ≤ 9) (hd : 1 ≤ d') (hd2 : d' ≤ 9) (hn : n < 10000) : FC YX6_nightsAsleep (d + 1) [.int (nI a), .int (nI b), .int (nI c), .int (nI d'), .int (nI n), .null, .null] [] (some (.int (nI (cntS (bth a b c d') n)))) [] := by
  intro hp
  refine E_iconst (v := 0) dX6_nightsAsleep_0 (by decide) ?_
  refine E_istore (l2 := [.int (nI a), .int (nI b), .int (nI c), .int (nI d'), .int (nI n), .int 0, .null]) dX6_nightsAsleep_1 (by decide) rfl ?_
  refine E_iconst (v := 1) dX6_nightsAsleep_3 (by decide) ?_
  refine E_istore (l2 := [.int (nI a), .int (nI b), .int (nI c), .int (nI d'), .int (nI n), .int 0, .int 1]) dX6_nightsAsleep_4 (by decide) rfl ?_
  have L : ∀ i, i ≤ n → E YX6_nightsAsleep (d + 1) 6 [.int (nI a), .int (nI b), .int (nI c), .int (nI d'), .int (nI n), .int (nI (cntS (bth a b c d') i)), .int (nI (i + 1))] [] (hov hp []) (fun v h' => v = some (.int (nI (cntS (bth a b c d') n))) ∧ h' = hov hp []) := by
    refine down n ?_ ?_
    · refine E_iload dX6_nightsAsleep_6 rfl ?_
      refine E_iload dX6_nightsAsleep_8 rfl ?_
      refine E_icmp_gt (tgt := 42) dX6_nightsAsleep_10 (by decide) (fun _ => ?_) (fun c => absurd (nI_lt (by omega) (by omega)) c)
      refine E_iload dX6_nightsAsleep_42 rfl ?_
      exact E_iretf dX6_nightsAsleep_44 rfl rfl rfl rfl
    · intro i hi ih
      refine E_iload dX6_nightsAsleep_6 rfl ?_
      refine E_iload dX6_nightsAsleep_8 rfl ?_
      refine E_icmp_gt (tgt := 42) dX6_nightsAsleep_10 (by decide) (fun c => absurd c (nI_nlt (by omega) (by omega))) (fun _ => ?_)
      refine E_iload_n dX6_nightsAsleep_13 rfl ?_
      refine E_iload_n dX6_nightsAsleep_14 rfl ?_
      refine E_iload dX6_nightsAsleep_15 rfl ?_
      refine E_callS (As := [.int (nI a), .int (nI b), .int (nI (i + 1))]) (l' := [.int (nI a), .int (nI b), .int (nI (i + 1)), .null]) (st := []) dX6_nightsAsleep_17 kX6_198 sX6_isAsleep MX6_isAsleep rfl rfl (Nat.le_of_ble_eq_true rfl) (FC.use (c_isAsleep d a b i (by omega) (by omega) (by omega) (by omega) (by omega)) rfl (L2 := []) rfl) (Nat.le_of_ble_eq_true rfl) (fun _ _ hq9 => E_fgo ?_ hq9)
      show E _ _ 20 [.int (nI a), .int (nI b), .int (nI c), .int (nI d'), .int (nI n), .int (nI (cntS (bth a b c d') i)), .int (nI (i + 1))] [.int (b2i (slp a b i))] (hov hp []) _
      refine E_if_eq (tgt := 36) dX6_nightsAsleep_20 (by decide) (fun c20 => ?_) (fun c20 => ?_)
      · have c20 := b2i_e0 c20
        refine E_iinc (y := nI (i + 1 + 1)) (l2 := [.int (nI a), .int (nI b), .int (nI c), .int (nI d'), .int (nI n), .int (nI (cntS (bth a b c d') i)), .int (nI (i + 1 + 1))]) dX6_nightsAsleep_36 rfl (nI_1 _) (by decide) rfl ?_
        refine E_goto (tgt := 6) dX6_nightsAsleep_39 (by decide) ?_
        rw [cntS_f (p := (bth a b c d')) (by simp [bth, c20])] at ih
        exact ih
      · have c20 := b2i_n0 c20
        refine E_iload_n dX6_nightsAsleep_23 rfl ?_
        refine E_iload_n dX6_nightsAsleep_24 rfl ?_
        refine E_iload dX6_nightsAsleep_25 rfl ?_
        refine E_callS (As := [.int (nI c), .int (nI d'), .int (nI (i + 1))]) (l' := [.int (nI c), .int (nI d'), .int (nI (i + 1)), .null]) (st := []) dX6_nightsAsleep_27 kX6_198 sX6_isAsleep MX6_isAsleep rfl rfl (Nat.le_of_ble_eq_true rfl) (FC.use (c_isAsleep d c d' i (by omega) (by omega) (by omega) (by omega) (by omega)) rfl (L2 := []) rfl) (Nat.le_of_ble_eq_true rfl) (fun _ _ hq9 => E_fgo ?_ hq9)
        show E _ _ 30 [.int (nI a), .int (nI b), .int (nI c), .int (nI d'), .int (nI n), .int (nI (cntS (bth a b c d') i)), .int (nI (i + 1))] [.int (b2i (slp c d' i))] (hov hp []) _
        refine E_if_eq (tgt := 36) dX6_nightsAsleep_30 (by decide) (fun c30 => ?_) (fun c30 => ?_)
        · have c30 := b2i_e0 c30
          refine E_iinc (y := nI (i + 1 + 1)) (l2 := [.int (nI a), .int (nI b), .int (nI c), .int (nI d'), .int (nI n), .int (nI (cntS (bth a b c d') i)), .int (nI (i + 1 + 1))]) dX6_nightsAsleep_36 rfl (nI_1 _) (by decide) rfl ?_
          refine E_goto (tgt := 6) dX6_nightsAsleep_39 (by decide) ?_
          rw [cntS_f (p := (bth a b c d')) (by simp [bth, c20, c30])] at ih
          exact ih
        · have c30 := b2i_n0 c30
          refine E_iinc (y := nI (cntS (bth a b c d') i + 1)) (l2 := [.int (nI a), .int (nI b), .int (nI c), .int (nI d'), .int (nI n), .int (nI (cntS (bth a b c d') i + 1)), .int (nI (i + 1))]) dX6_nightsAsleep_33 rfl (nI_1 _) (by decide) rfl ?_
          refine E_iinc (y := nI (i + 1 + 1)) (l2 := [.int (nI a), .int (nI b), .int (nI c), .int (nI d'), .int (nI n), .int (nI (cntS (bth a b c d') i + 1)), .int (nI (i + 1 + 1))]) dX6_nightsAsleep_36 rfl (nI_1 _) (by decide) rfl ?_
          refine E_goto (tgt := 6) dX6_nightsAsleep_39 (by decide) ?_
          rw [cntS_t (p := (bth a b c d')) (by simp [bth, c20, c30])] at ih
          exact ih
  exact L 0 (by omega)

set_option maxHeartbeats 4000000 in
set_option maxRecDepth 20000 in
theorem c_firstNight (d : Nat) (a b c d' n j : Nat) (ha : 1 ≤ a) (ha2 : a ≤ 9) (hb : 1 ≤ b) (hb2 : b ≤ 9) (hc : 1 ≤ c) (hc2 : c ≤ 9) (hd : 1 ≤ d') (hd2 : d' ≤ 9) (hn : n < 10000) (hj : j < n) (hpj : bth a b c d' j = true) (hno : ∀ i, i < j → bth a b c d' i = false) : FC YX6_firstNightAsleep (d + 1) [.int (nI a), .int (nI b), .int (nI c), .int (nI d'), .int (nI n), .null] [] (some (.int (nI (j + 1)))) [] := by
  intro hp
  refine E_iconst (v := 1) dX6_firstNightAsleep_0 (by decide) ?_
  refine E_istore (l2 := [.int (nI a), .int (nI b), .int (nI c), .int (nI d'), .int (nI n), .int 1]) dX6_firstNightAsleep_1 (by decide) rfl ?_
  have L : ∀ i, i ≤ j → E YX6_firstNightAsleep (d + 1) 3 [.int (nI a), .int (nI b), .int (nI c), .int (nI d'), .int (nI n), .int (nI (i + 1))] [] (hov hp []) (fun v h' => v = some (.int (nI (j + 1))) ∧ h' = hov hp []) := by
    refine down j ?_ ?_
    · have h1 : slp a b j = true := by simp only [bth, Bool.and_eq_true] at hpj; exact hpj.1
      have h2 : slp c d' j = true := by simp only [bth, Bool.and_eq_true] at hpj; exact hpj.2
      refine E_iload dX6_firstNightAsleep_3 rfl ?_
      refine E_iload dX6_firstNightAsleep_5 rfl ?_
      refine E_icmp_gt (tgt := 39) dX6_firstNightAsleep_7 (by decide) (fun c => absurd c (nI_nlt (by omega) (by omega))) (fun _ => ?_)
      refine E_iload_n dX6_firstNightAsleep_10 rfl ?_
      refine E_iload_n dX6_firstNightAsleep_11 rfl ?_
      refine E_iload dX6_firstNightAsleep_12 rfl ?_
      refine E_callS (As := [.int (nI a), .int (nI b), .int (nI (j + 1))]) (l' := [.int (nI a), .int (nI b), .int (nI (j + 1)), .null]) (st := []) dX6_firstNightAsleep_14 kX6_198 sX6_isAsleep MX6_isAsleep rfl rfl (Nat.le_of_ble_eq_true rfl) (FC.use (c_isAsleep d a b j (by omega) (by omega) (by omega) (by omega) (by omega)) rfl (L2 := []) rfl) (Nat.le_of_ble_eq_true rfl) (fun _ _ hq9 => E_fgo ?_ hq9)
      show E _ _ 17 [.int (nI a), .int (nI b), .int (nI c), .int (nI d'), .int (nI n), .int (nI (j + 1))] [.int (b2i (slp a b j))] (hov hp []) _
      refine E_if_eq (tgt := 33) dX6_firstNightAsleep_17 (by decide) (fun c => (b2i_x1 h1 c).elim) (fun _ => ?_)
      refine E_iload_n dX6_firstNightAsleep_20 rfl ?_
      refine E_iload_n dX6_firstNightAsleep_21 rfl ?_
      refine E_iload dX6_firstNightAsleep_22 rfl ?_
      refine E_callS (As := [.int (nI c), .int (nI d'), .int (nI (j + 1))]) (l' := [.int (nI c), .int (nI d'), .int (nI (j + 1)), .null]) (st := []) dX6_firstNightAsleep_24 kX6_198 sX6_isAsleep MX6_isAsleep rfl rfl (Nat.le_of_ble_eq_true rfl) (FC.use (c_isAsleep d c d' j (by omega) (by omega) (by omega) (by omega) (by omega)) rfl (L2 := []) rfl) (Nat.le_of_ble_eq_true rfl) (fun _ _ hq9 => E_fgo ?_ hq9)
      show E _ _ 27 [.int (nI a), .int (nI b), .int (nI c), .int (nI d'), .int (nI n), .int (nI (j + 1))] [.int (b2i (slp c d' j))] (hov hp []) _
      refine E_if_eq (tgt := 33) dX6_firstNightAsleep_27 (by decide) (fun c => (b2i_x1 h2 c).elim) (fun _ => ?_)
      refine E_iload dX6_firstNightAsleep_30 rfl ?_
      exact E_iretf dX6_firstNightAsleep_32 rfl rfl rfl rfl
    · intro i hi ih
      have h0 := hno i hi
      refine E_iload dX6_firstNightAsleep_3 rfl ?_
      refine E_iload dX6_firstNightAsleep_5 rfl ?_
      refine E_icmp_gt (tgt := 39) dX6_firstNightAsleep_7 (by decide) (fun c => absurd c (nI_nlt (by omega) (by omega))) (fun _ => ?_)
      refine E_iload_n dX6_firstNightAsleep_10 rfl ?_
      refine E_iload_n dX6_firstNightAsleep_11 rfl ?_
      refine E_iload dX6_firstNightAsleep_12 rfl ?_
      refine E_callS (As := [.int (nI a), .int (nI b), .int (nI (i + 1))]) (l' := [.int (nI a), .int (nI b), .int (nI (i + 1)), .null]) (st := []) dX6_firstNightAsleep_14 kX6_198 sX6_isAsleep MX6_isAsleep rfl rfl (Nat.le_of_ble_eq_true rfl) (FC.use (c_isAsleep d a b i (by omega) (by omega) (by omega) (by omega) (by omega)) rfl (L2 := []) rfl) (Nat.le_of_ble_eq_true rfl) (fun _ _ hq9 => E_fgo ?_ hq9)
      show E _ _ 17 [.int (nI a), .int (nI b), .int (nI c), .int (nI d'), .int (nI n), .int (nI (i + 1))] [.int (b2i (slp a b i))] (hov hp []) _
      refine E_if_eq (tgt := 33) dX6_firstNightAsleep_17 (by decide) (fun c17 => ?_) (fun c17 => ?_)
      · have c17 := b2i_e0 c17
        refine E_iinc (y := nI (i + 1 + 1)) (l2 := [.int (nI a), .int (nI b), .int (nI c), .int (nI d'), .int (nI n), .int (nI (i + 1 + 1))]) dX6_firstNightAsleep_33 rfl (nI_1 _) (by decide) rfl ?_
        refine E_goto (tgt := 3) dX6_firstNightAsleep_36 (by decide) ?_
        exact ih
      · have c17 := b2i_n0 c17
        refine E_iload_n dX6_firstNightAsleep_20 rfl ?_
        refine E_iload_n dX6_firstNightAsleep_21 rfl ?_
        refine E_iload dX6_firstNightAsleep_22 rfl ?_
        refine E_callS (As := [.int (nI c), .int (nI d'), .int (nI (i + 1))]) (l' := [.int (nI c), .int (nI d'), .int (nI (i + 1)), .null]) (st := []) dX6_firstNightAsleep_24 kX6_198 sX6_isAsleep MX6_isAsleep rfl rfl (Nat.le_of_ble_eq_true rfl) (FC.use (c_isAsleep d c d' i (by omega) (by omega) (by omega) (by omega) (by omega)) rfl (L2 := []) rfl) (Nat.le_of_ble_eq_true rfl) (fun _ _ hq9 => E_fgo ?_ hq9)
        show E _ _ 27 [.int (nI a), .int (nI b), .int (nI c), .int (nI d'), .int (nI n), .int (nI (i + 1))] [.int (b2i (slp c d' i))] (hov hp []) _
        refine E_if_eq (tgt := 33) dX6_firstNightAsleep_27 (by decide) (fun c27 => ?_) (fun c27 => ?_)
        · have c27 := b2i_e0 c27
          refine E_iinc (y := nI (i + 1 + 1)) (l2 := [.int (nI a), .int (nI b), .int (nI c), .int (nI d'), .int (nI n), .int (nI (i + 1 + 1))]) dX6_firstNightAsleep_33 rfl (nI_1 _) (by decide) rfl ?_
          refine E_goto (tgt := 3) dX6_firstNightAsleep_36 (by decide) ?_
          exact ih
        · have c27 := b2i_n0 c27
          exact absurd h0 (by simp [bth, c17, c27])
  exact L 0 (by omega)

set_option maxHeartbeats 4000000 in
set_option maxRecDepth 20000 in
theorem t_nods_o0 (d : Nat) (rk : Nat) (x1 x2 x3 x4 x5 x6 : Int32) (h0 : inL (Int32.toInt64 x1) 1 9 = false) : FC YX6_nods (d + 1) [.ref 0, .int x1, .int x2, .int x3, .int x4, .int x5, .int x6, .null, .null] [(0, .inr (6, [.ref 1, .ref 5, .ref 7, .ref 10, .ref 18, .ref 26, .ref 31, .ref 35, .ref 37, .int (nI rk)]))] (some (.int (-2))) [(0, .inr (6, [.ref 1, .ref 5, .ref 7, .ref 10, .ref 18, .ref 26, .ref 31, .ref 35, .ref 37, .int (nI rk)]))] := by
  intro hp
  refine E_iload_n dX6_nods_0 rfl ?_
  refine E_i2l dX6_nods_1 ?_
  refine E_lconst (v := 1) dX6_nods_2 (by decide) ?_
  refine E_ldc2 dX6_nods_3 qX6_77 ?_
  refine E_callS (As := [.long (Int32.toInt64 x1), .long 1, .long 9]) (l' := [.long (Int32.toInt64 x1), .null, .long 1, .null, .long 9, .null]) (st := []) dX6_nods_6 kX6_73 sX6_isIn MX6_isIn rfl rfl (Nat.le_of_ble_eq_true rfl) (FC.use (c_isIn d _ _ _) rfl (L2 := [(0, .inr (6, [.ref 1, .ref 5, .ref 7, .ref 10, .ref 18, .ref 26, .ref 31, .ref 35, .ref 37, .int (nI rk)]))]) rfl) (Nat.le_of_ble_eq_true rfl) (fun _ _ hq9 => E_fgo ?_ hq9)
  show E _ _ 9 [.ref 0, .int x1, .int x2, .int x3, .int x4, .int x5, .int x6, .null, .null] [.int (b2i (inL (Int32.toInt64 x1) 1 9))] (hov hp [(0, .inr (6, [.ref 1, .ref 5, .ref 7, .ref 10, .ref 18, .ref 26, .ref 31, .ref 35, .ref 37, .int (nI rk)]))]) _
  refine E_if_eq (tgt := 49) dX6_nods_9 (by decide) (fun _ => ?_) (fun c => (b2i_x0 h0 c).elim)
  refine E_bipush (v := (-2)) dX6_nods_49 (by decide) ?_
  exact E_iretf dX6_nods_51 rfl rfl rfl rfl

set_option maxHeartbeats 4000000 in
set_option maxRecDepth 20000 in
theorem t_nods_o1 (d : Nat) (rk : Nat) (x1 x2 x3 x4 x5 x6 : Int32) (h0 : inL (Int32.toInt64 x1) 1 9 = true) (h1 : inL (Int32.toInt64 x2) 1 9 = false) : FC YX6_nods (d + 1) [.ref 0, .int x1, .int x2, .int x3, .int x4, .int x5, .int x6, .null, .null] [(0, .inr (6, [.ref 1, .ref 5, .ref 7, .ref 10, .ref 18, .ref 26, .ref 31, .ref 35, .ref 37, .int (nI rk)]))] (some (.int (-2))) [(0, .inr (6, [.ref 1, .ref 5, .ref 7, .ref 10, .ref 18, .ref 26, .ref 31, .ref 35, .ref 37, .int (nI rk)]))] := by
  intro hp
  refine E_iload_n dX6_nods_0 rfl ?_
  refine E_i2l dX6_nods_1 ?_
  refine E_lconst (v := 1) dX6_nods_2 (by decide) ?_
  refine E_ldc2 dX6_nods_3 qX6_77 ?_
  refine E_callS (As := [.long (Int32.toInt64 x1), .long 1, .long 9]) (l' := [.long (Int32.toInt64 x1), .null, .long 1, .null, .long 9, .null]) (st := []) dX6_nods_6 kX6_73 sX6_isIn MX6_isIn rfl rfl (Nat.le_of_ble_eq_true rfl) (FC.use (c_isIn d _ _ _) rfl (L2 := [(0, .inr (6, [.ref 1, .ref 5, .ref 7, .ref 10, .ref 18, .ref 26, .ref 31, .ref 35, .ref 37, .int (nI rk)]))]) rfl) (Nat.le_of_ble_eq_true rfl) (fun _ _ hq9 => E_fgo ?_ hq9)
  show E _ _ 9 [.ref 0, .int x1, .int x2, .int x3, .int x4, .int x5, .int x6, .null, .null] [.int (b2i (inL (Int32.toInt64 x1) 1 9))] (hov hp [(0, .inr (6, [.ref 1, .ref 5, .ref 7, .ref 10, .ref 18, .ref 26, .ref 31, .ref 35, .ref 37, .int (nI rk)]))]) _
  refine E_if_eq (tgt := 49) dX6_nods_9 (by decide) (fun c => (b2i_x1 h0 c).elim) (fun _ => ?_)
  refine E_iload_n dX6_nods_12 rfl ?_
  refine E_i2l dX6_nods_13 ?_
  refine E_lconst (v := 1) dX6_nods_14 (by decide) ?_
  refine E_ldc2 dX6_nods_15 qX6_77 ?_
  refine E_callS (As := [.long (Int32.toInt64 x2), .long 1, .long 9]) (l' := [.long (Int32.toInt64 x2), .null, .long 1, .null, .long 9, .null]) (st := []) dX6_nods_18 kX6_73 sX6_isIn MX6_isIn rfl rfl (Nat.le_of_ble_eq_true rfl) (FC.use (c_isIn d _ _ _) rfl (L2 := [(0, .inr (6, [.ref 1, .ref 5, .ref 7, .ref 10, .ref 18, .ref 26, .ref 31, .ref 35, .ref 37, .int (nI rk)]))]) rfl) (Nat.le_of_ble_eq_true rfl) (fun _ _ hq9 => E_fgo ?_ hq9)
  show E _ _ 21 [.ref 0, .int x1, .int x2, .int x3, .int x4, .int x5, .int x6, .null, .null] [.int (b2i (inL (Int32.toInt64 x2) 1 9))] (hov hp [(0, .inr (6, [.ref 1, .ref 5, .ref 7, .ref 10, .ref 18, .ref 26, .ref 31, .ref 35, .ref 37, .int (nI rk)]))]) _
  refine E_if_eq (tgt := 49) dX6_nods_21 (by decide) (fun _ => ?_) (fun c => (b2i_x0 h1 c).elim)
  refine E_bipush (v := (-2)) dX6_nods_49 (by decide) ?_
  exact E_iretf dX6_nods_51 rfl rfl rfl rfl

set_option maxHeartbeats 4000000 in
set_option maxRecDepth 20000 in
theorem t_nods_o2 (d : Nat) (rk : Nat) (x1 x2 x3 x4 x5 x6 : Int32) (h0 : inL (Int32.toInt64 x1) 1 9 = true) (h1 : inL (Int32.toInt64 x2) 1 9 = true) (h2 : inL (Int32.toInt64 x3) 1 9 = false) : FC YX6_nods (d + 1) [.ref 0, .int x1, .int x2, .int x3, .int x4, .int x5, .int x6, .null, .null] [(0, .inr (6, [.ref 1, .ref 5, .ref 7, .ref 10, .ref 18, .ref 26, .ref 31, .ref 35, .ref 37, .int (nI rk)]))] (some (.int (-2))) [(0, .inr (6, [.ref 1, .ref 5, .ref 7, .ref 10, .ref 18, .ref 26, .ref 31, .ref 35, .ref 37, .int (nI rk)]))] := by
  intro hp
  refine E_iload_n dX6_nods_0 rfl ?_
  refine E_i2l dX6_nods_1 ?_
  refine E_lconst (v := 1) dX6_nods_2 (by decide) ?_
  refine E_ldc2 dX6_nods_3 qX6_77 ?_
  refine E_callS (As := [.long (Int32.toInt64 x1), .long 1, .long 9]) (l' := [.long (Int32.toInt64 x1), .null, .long 1, .null, .long 9, .null]) (st := []) dX6_nods_6 kX6_73 sX6_isIn MX6_isIn rfl rfl (Nat.le_of_ble_eq_true rfl) (FC.use (c_isIn d _ _ _) rfl (L2 := [(0, .inr (6, [.ref 1, .ref 5, .ref 7, .ref 10, .ref 18, .ref 26, .ref 31, .ref 35, .ref 37, .int (nI rk)]))]) rfl) (Nat.le_of_ble_eq_true rfl) (fun _ _ hq9 => E_fgo ?_ hq9)
  show E _ _ 9 [.ref 0, .int x1, .int x2, .int x3, .int x4, .int x5, .int x6, .null, .null] [.int (b2i (inL (Int32.toInt64 x1) 1 9))] (hov hp [(0, .inr (6, [.ref 1, .ref 5, .ref 7, .ref 10, .ref 18, .ref 26, .ref 31, .ref 35, .ref 37, .int (nI rk)]))]) _
  refine E_if_eq (tgt := 49) dX6_nods_9 (by decide) (fun c => (b2i_x1 h0 c).elim) (fun _ => ?_)
  refine E_iload_n dX6_nods_12 rfl ?_
  refine E_i2l dX6_nods_13 ?_
  refine E_lconst (v := 1) dX6_nods_14 (by decide) ?_
  refine E_ldc2 dX6_nods_15 qX6_77 ?_
  refine E_callS (As := [.long (Int32.toInt64 x2), .long 1, .long 9]) (l' := [.long (Int32.toInt64 x2), .null, .long 1, .null, .long 9, .null]) (st := []) dX6_nods_18 kX6_73 sX6_isIn MX6_isIn rfl rfl (Nat.le_of_ble_eq_true rfl) (FC.use (c_isIn d _ _ _) rfl (L2 := [(0, .inr (6, [.ref 1, .ref 5, .ref 7, .ref 10, .ref 18, .ref 26, .ref 31, .ref 35, .ref 37, .int (nI rk)]))]) rfl) (Nat.le_of_ble_eq_true rfl) (fun _ _ hq9 => E_fgo ?_ hq9)
  show E _ _ 21 [.ref 0, .int x1, .int x2, .int x3, .int x4, .int x5, .int x6, .null, .null] [.int (b2i (inL (Int32.toInt64 x2) 1 9))] (hov hp [(0, .inr (6, [.ref 1, .ref 5, .ref 7, .ref 10, .ref 18, .ref 26, .ref 31, .ref 35, .ref 37, .int (nI rk)]))]) _
  refine E_if_eq (tgt := 49) dX6_nods_21 (by decide) (fun c => (b2i_x1 h1 c).elim) (fun _ => ?_)
  refine E_iload_n dX6_nods_24 rfl ?_
  refine E_i2l dX6_nods_25 ?_
  refine E_lconst (v := 1) dX6_nods_26 (by decide) ?_
  refine E_ldc2 dX6_nods_27 qX6_77 ?_
  refine E_callS (As := [.long (Int32.toInt64 x3), .long 1, .long 9]) (l' := [.long (Int32.toInt64 x3), .null, .long 1, .null, .long 9, .null]) (st := []) dX6_nods_30 kX6_73 sX6_isIn MX6_isIn rfl rfl (Nat.le_of_ble_eq_true rfl) (FC.use (c_isIn d _ _ _) rfl (L2 := [(0, .inr (6, [.ref 1, .ref 5, .ref 7, .ref 10, .ref 18, .ref 26, .ref 31, .ref 35, .ref 37, .int (nI rk)]))]) rfl) (Nat.le_of_ble_eq_true rfl) (fun _ _ hq9 => E_fgo ?_ hq9)
  show E _ _ 33 [.ref 0, .int x1, .int x2, .int x3, .int x4, .int x5, .int x6, .null, .null] [.int (b2i (inL (Int32.toInt64 x3) 1 9))] (hov hp [(0, .inr (6, [.ref 1, .ref 5, .ref 7, .ref 10, .ref 18, .ref 26, .ref 31, .ref 35, .ref 37, .int (nI rk)]))]) _
  refine E_if_eq (tgt := 49) dX6_nods_33 (by decide) (fun _ => ?_) (fun c => (b2i_x0 h2 c).elim)
  refine E_bipush (v := (-2)) dX6_nods_49 (by decide) ?_
  exact E_iretf dX6_nods_51 rfl rfl rfl rfl

set_option maxHeartbeats 4000000 in
set_option maxRecDepth 20000 in
theorem t_nods_o3 (d : Nat) (rk : Nat) (x1 x2 x3 x4 x5 x6 : Int32) (h0 : inL (Int32.toInt64 x1) 1 9 = true) (h1 : inL (Int32.toInt64 x2) 1 9 = true) (h2 : inL (Int32.toInt64 x3) 1 9 = true) (h3 : inL (Int32.toInt64 x4) 1 9 = false) : FC YX6_nods (d + 1) [.ref 0, .int x1, .int x2, .int x3, .int x4, .int x5, .int x6, .null, .null] [(0, .inr (6, [.ref 1, .ref 5, .ref 7, .ref 10, .ref 18, .ref 26, .ref 31, .ref 35, .ref 37, .int (nI rk)]))] (some (.int (-2))) [(0, .inr (6, [.ref 1, .ref 5, .ref 7, .ref 10, .ref 18, .ref 26, .ref 31, .ref 35, .ref 37, .int (nI rk)]))] := by
  intro hp
  refine E_iload_n dX6_nods_0 rfl ?_
  refine E_i2l dX6_nods_1 ?_
  refine E_lconst (v := 1) dX6_nods_2 (by decide) ?_
  refine E_ldc2 dX6_nods_3 qX6_77 ?_
  refine E_callS (As := [.long (Int32.toInt64 x1), .long 1, .long 9]) (l' := [.long (Int32.toInt64 x1), .null, .long 1, .null, .long 9, .null]) (st := []) dX6_nods_6 kX6_73 sX6_isIn MX6_isIn rfl rfl (Nat.le_of_ble_eq_true rfl) (FC.use (c_isIn d _ _ _) rfl (L2 := [(0, .inr (6, [.ref 1, .ref 5, .ref 7, .ref 10, .ref 18, .ref 26, .ref 31, .ref 35, .ref 37, .int (nI rk)]))]) rfl) (Nat.le_of_ble_eq_true rfl) (fun _ _ hq9 => E_fgo ?_ hq9)
  show E _ _ 9 [.ref 0, .int x1, .int x2, .int x3, .int x4, .int x5, .int x6, .null, .null] [.int (b2i (inL (Int32.toInt64 x1) 1 9))] (hov hp [(0, .inr (6, [.ref 1, .ref 5, .ref 7, .ref 10, .ref 18, .ref 26, .ref 31, .ref 35, .ref 37, .int (nI rk)]))]) _
  refine E_if_eq (tgt := 49) dX6_nods_9 (by decide) (fun c => (b2i_x1 h0 c).elim) (fun _ => ?_)
  refine E_iload_n dX6_nods_12 rfl ?_
  refine E_i2l dX6_nods_13 ?_
  refine E_lconst (v := 1) dX6_nods_14 (by decide) ?_
  refine E_ldc2 dX6_nods_15 qX6_77 ?_
  refine E_callS (As := [.long (Int32.toInt64 x2), .long 1, .long 9]) (l' := [.long (Int32.toInt64 x2), .null, .long 1, .null, .long 9, .null]) (st := []) dX6_nods_18 kX6_73 sX6_isIn MX6_isIn rfl rfl (Nat.le_of_ble_eq_true rfl) (FC.use (c_isIn d _ _ _) rfl (L2 := [(0, .inr (6, [.ref 1, .ref 5, .ref 7, .ref 10, .ref 18, .ref 26, .ref 31, .ref 35, .ref 37, .int (nI rk)]))]) rfl) (Nat.le_of_ble_eq_true rfl) (fun _ _ hq9 => E_fgo ?_ hq9)
  show E _ _ 21 [.ref 0, .int x1, .int x2, .int x3, .int x4, .int x5, .int x6, .null, .null] [.int (b2i (inL (Int32.toInt64 x2) 1 9))] (hov hp [(0, .inr (6, [.ref 1, .ref 5, .ref 7, .ref 10, .ref 18, .ref 26, .ref 31, .ref 35, .ref 37, .int (nI rk)]))]) _
  refine E_if_eq (tgt := 49) dX6_nods_21 (by decide) (fun c => (b2i_x1 h1 c).elim) (fun _ => ?_)
  refine E_iload_n dX6_nods_24 rfl ?_
  refine E_i2l dX6_nods_25 ?_
  refine E_lconst (v := 1) dX6_nods_26 (by decide) ?_
  refine E_ldc2 dX6_nods_27 qX6_77 ?_
  refine E_callS (As := [.long (Int32.toInt64 x3), .long 1, .long 9]) (l' := [.long (Int32.toInt64 x3), .null, .long 1, .null, .long 9, .null]) (st := []) dX6_nods_30 kX6_73 sX6_isIn MX6_isIn rfl rfl (Nat.le_of_ble_eq_true rfl) (FC.use (c_isIn d _ _ _) rfl (L2 := [(0, .inr (6, [.ref 1, .ref 5, .ref 7, .ref 10, .ref 18, .ref 26, .ref 31, .ref 35, .ref 37, .int (nI rk)]))]) rfl) (Nat.le_of_ble_eq_true rfl) (fun _ _ hq9 => E_fgo ?_ hq9)
  show E _ _ 33 [.ref 0, .int x1, .int x2, .int x3, .int x4, .int x5, .int x6, .null, .null] [.int (b2i (inL (Int32.toInt64 x3) 1 9))] (hov hp [(0, .inr (6, [.ref 1, .ref 5, .ref 7, .ref 10, .ref 18, .ref 26, .ref 31, .ref 35, .ref 37, .int (nI rk)]))]) _
  refine E_if_eq (tgt := 49) dX6_nods_33 (by decide) (fun c => (b2i_x1 h2 c).elim) (fun _ => ?_)
  refine E_iload dX6_nods_36 rfl ?_
  refine E_i2l dX6_nods_38 ?_
  refine E_lconst (v := 1) dX6_nods_39 (by decide) ?_
  refine E_ldc2 dX6_nods_40 qX6_77 ?_
  refine E_callS (As := [.long (Int32.toInt64 x4), .long 1, .long 9]) (l' := [.long (Int32.toInt64 x4), .null, .long 1, .null, .long 9, .null]) (st := []) dX6_nods_43 kX6_73 sX6_isIn MX6_isIn rfl rfl (Nat.le_of_ble_eq_true rfl) (FC.use (c_isIn d _ _ _) rfl (L2 := [(0, .inr (6, [.ref 1, .ref 5, .ref 7, .ref 10, .ref 18, .ref 26, .ref 31, .ref 35, .ref 37, .int (nI rk)]))]) rfl) (Nat.le_of_ble_eq_true rfl) (fun _ _ hq9 => E_fgo ?_ hq9)
  show E _ _ 46 [.ref 0, .int x1, .int x2, .int x3, .int x4, .int x5, .int x6, .null, .null] [.int (b2i (inL (Int32.toInt64 x4) 1 9))] (hov hp [(0, .inr (6, [.ref 1, .ref 5, .ref 7, .ref 10, .ref 18, .ref 26, .ref 31, .ref 35, .ref 37, .int (nI rk)]))]) _
  refine E_if_ne (tgt := 52) dX6_nods_46 (by decide) (fun c => (b2i_x0 h3 c).elim) (fun _ => ?_)
  refine E_bipush (v := (-2)) dX6_nods_49 (by decide) ?_
  exact E_iretf dX6_nods_51 rfl rfl rfl rfl

set_option maxHeartbeats 4000000 in
set_option maxRecDepth 20000 in
theorem t_nods_o4 (d : Nat) (rk : Nat) (x1 x2 x3 x4 x5 x6 : Int32) (h0 : inL (Int32.toInt64 x1) 1 9 = true) (h1 : inL (Int32.toInt64 x2) 1 9 = true) (h2 : inL (Int32.toInt64 x3) 1 9 = true) (h3 : inL (Int32.toInt64 x4) 1 9 = true) (h4 : inL (Int32.toInt64 x5) 0 9999 = false) : FC YX6_nods (d + 1) [.ref 0, .int x1, .int x2, .int x3, .int x4, .int x5, .int x6, .null, .null] [(0, .inr (6, [.ref 1, .ref 5, .ref 7, .ref 10, .ref 18, .ref 26, .ref 31, .ref 35, .ref 37, .int (nI rk)]))] (some (.int (-2))) [(0, .inr (6, [.ref 1, .ref 5, .ref 7, .ref 10, .ref 18, .ref 26, .ref 31, .ref 35, .ref 37, .int (nI rk)]))] := by
  intro hp
  refine E_iload_n dX6_nods_0 rfl ?_
  refine E_i2l dX6_nods_1 ?_
  refine E_lconst (v := 1) dX6_nods_2 (by decide) ?_
  refine E_ldc2 dX6_nods_3 qX6_77 ?_
  refine E_callS (As := [.long (Int32.toInt64 x1), .long 1, .long 9]) (l' := [.long (Int32.toInt64 x1), .null, .long 1, .null, .long 9, .null]) (st := []) dX6_nods_6 kX6_73 sX6_isIn MX6_isIn rfl rfl (Nat.le_of_ble_eq_true rfl) (FC.use (c_isIn d _ _ _) rfl (L2 := [(0, .inr (6, [.ref 1, .ref 5, .ref 7, .ref 10, .ref 18, .ref 26, .ref 31, .ref 35, .ref 37, .int (nI rk)]))]) rfl) (Nat.le_of_ble_eq_true rfl) (fun _ _ hq9 => E_fgo ?_ hq9)
  show E _ _ 9 [.ref 0, .int x1, .int x2, .int x3, .int x4, .int x5, .int x6, .null, .null] [.int (b2i (inL (Int32.toInt64 x1) 1 9))] (hov hp [(0, .inr (6, [.ref 1, .ref 5, .ref 7, .ref 10, .ref 18, .ref 26, .ref 31, .ref 35, .ref 37, .int (nI rk)]))]) _
  refine E_if_eq (tgt := 49) dX6_nods_9 (by decide) (fun c => (b2i_x1 h0 c).elim) (fun _ => ?_)
  refine E_iload_n dX6_nods_12 rfl ?_
  refine E_i2l dX6_nods_13 ?_
  refine E_lconst (v := 1) dX6_nods_14 (by decide) ?_
  refine E_ldc2 dX6_nods_15 qX6_77 ?_
  refine E_callS (As := [.long (Int32.toInt64 x2), .long 1, .long 9]) (l' := [.long (Int32.toInt64 x2), .null, .long 1, .null, .long 9, .null]) (st := []) dX6_nods_18 kX6_73 sX6_isIn MX6_isIn rfl rfl (Nat.le_of_ble_eq_true rfl) (FC.use (c_isIn d _ _ _) rfl (L2 := [(0, .inr (6, [.ref 1, .ref 5, .ref 7, .ref 10, .ref 18, .ref 26, .ref 31, .ref 35, .ref 37, .int (nI rk)]))]) rfl) (Nat.le_of_ble_eq_true rfl) (fun _ _ hq9 => E_fgo ?_ hq9)
  show E _ _ 21 [.ref 0, .int x1, .int x2, .int x3, .int x4, .int x5, .int x6, .null, .null] [.int (b2i (inL (Int32.toInt64 x2) 1 9))] (hov hp [(0, .inr (6, [.ref 1, .ref 5, .ref 7, .ref 10, .ref 18, .ref 26, .ref 31, .ref 35, .ref 37, .int (nI rk)]))]) _
  refine E_if_eq (tgt := 49) dX6_nods_21 (by decide) (fun c => (b2i_x1 h1 c).elim) (fun _ => ?_)
  refine E_iload_n dX6_nods_24 rfl ?_
  refine E_i2l dX6_nods_25 ?_
  refine E_lconst (v := 1) dX6_nods_26 (by decide) ?_
  refine E_ldc2 dX6_nods_27 qX6_77 ?_
  refine E_callS (As := [.long (Int32.toInt64 x3), .long 1, .long 9]) (l' := [.long (Int32.toInt64 x3), .null, .long 1, .null, .long 9, .null]) (st := []) dX6_nods_30 kX6_73 sX6_isIn MX6_isIn rfl rfl (Nat.le_of_ble_eq_true rfl) (FC.use (c_isIn d _ _ _) rfl (L2 := [(0, .inr (6, [.ref 1, .ref 5, .ref 7, .ref 10, .ref 18, .ref 26, .ref 31, .ref 35, .ref 37, .int (nI rk)]))]) rfl) (Nat.le_of_ble_eq_true rfl) (fun _ _ hq9 => E_fgo ?_ hq9)
  show E _ _ 33 [.ref 0, .int x1, .int x2, .int x3, .int x4, .int x5, .int x6, .null, .null] [.int (b2i (inL (Int32.toInt64 x3) 1 9))] (hov hp [(0, .inr (6, [.ref 1, .ref 5, .ref 7, .ref 10, .ref 18, .ref 26, .ref 31, .ref 35, .ref 37, .int (nI rk)]))]) _
  refine E_if_eq (tgt := 49) dX6_nods_33 (by decide) (fun c => (b2i_x1 h2 c).elim) (fun _ => ?_)
  refine E_iload dX6_nods_36 rfl ?_
  refine E_i2l dX6_nods_38 ?_
  refine E_lconst (v := 1) dX6_nods_39 (by decide) ?_
  refine E_ldc2 dX6_nods_40 qX6_77 ?_
  refine E_callS (As := [.long (Int32.toInt64 x4), .long 1, .long 9]) (l' := [.long (Int32.toInt64 x4), .null, .long 1, .null, .long 9, .null]) (st := []) dX6_nods_43 kX6_73 sX6_isIn MX6_isIn rfl rfl (Nat.le_of_ble_eq_true rfl) (FC.use (c_isIn d _ _ _) rfl (L2 := [(0, .inr (6, [.ref 1, .ref 5, .ref 7, .ref 10, .ref 18, .ref 26, .ref 31, .ref 35, .ref 37, .int (nI rk)]))]) rfl) (Nat.le_of_ble_eq_true rfl) (fun _ _ hq9 => E_fgo ?_ hq9)
  show E _ _ 46 [.ref 0, .int x1, .int x2, .int x3, .int x4, .int x5, .int x6, .null, .null] [.int (b2i (inL (Int32.toInt64 x4) 1 9))] (hov hp [(0, .inr (6, [.ref 1, .ref 5, .ref 7, .ref 10, .ref 18, .ref 26, .ref 31, .ref 35, .ref 37, .int (nI rk)]))]) _
  refine E_if_ne (tgt := 52) dX6_nods_46 (by decide) (fun _ => ?_) (fun c => (b2i_x1 h3 c).elim)
  refine E_iload dX6_nods_52 rfl ?_
  refine E_i2l dX6_nods_54 ?_
  refine E_lconst (v := 0) dX6_nods_55 (by decide) ?_
  refine E_ldc2 dX6_nods_56 qX6_189 ?_
  refine E_callS (As := [.long (Int32.toInt64 x5), .long 0, .long 9999]) (l' := [.long (Int32.toInt64 x5), .null, .long 0, .null, .long 9999, .null]) (st := []) dX6_nods_59 kX6_73 sX6_isIn MX6_isIn rfl rfl (Nat.le_of_ble_eq_true rfl) (FC.use (c_isIn d _ _ _) rfl (L2 := [(0, .inr (6, [.ref 1, .ref 5, .ref 7, .ref 10, .ref 18, .ref 26, .ref 31, .ref 35, .ref 37, .int (nI rk)]))]) rfl) (Nat.le_of_ble_eq_true rfl) (fun _ _ hq9 => E_fgo ?_ hq9)
  show E _ _ 62 [.ref 0, .int x1, .int x2, .int x3, .int x4, .int x5, .int x6, .null, .null] [.int (b2i (inL (Int32.toInt64 x5) 0 9999))] (hov hp [(0, .inr (6, [.ref 1, .ref 5, .ref 7, .ref 10, .ref 18, .ref 26, .ref 31, .ref 35, .ref 37, .int (nI rk)]))]) _
  refine E_if_eq (tgt := 76) dX6_nods_62 (by decide) (fun _ => ?_) (fun c => (b2i_x0 h4 c).elim)
  refine E_bipush (v := (-2)) dX6_nods_76 (by decide) ?_
  exact E_iretf dX6_nods_78 rfl rfl rfl rfl

set_option maxHeartbeats 4000000 in
set_option maxRecDepth 20000 in
theorem t_nods_o5 (d : Nat) (rk : Nat) (x1 x2 x3 x4 x5 x6 : Int32) (h0 : inL (Int32.toInt64 x1) 1 9 = true) (h1 : inL (Int32.toInt64 x2) 1 9 = true) (h2 : inL (Int32.toInt64 x3) 1 9 = true) (h3 : inL (Int32.toInt64 x4) 1 9 = true) (h4 : inL (Int32.toInt64 x5) 0 9999 = true) (h5 : inL (Int32.toInt64 x6) 0 1 = false) : FC YX6_nods (d + 1) [.ref 0, .int x1, .int x2, .int x3, .int x4, .int x5, .int x6, .null, .null] [(0, .inr (6, [.ref 1, .ref 5, .ref 7, .ref 10, .ref 18, .ref 26, .ref 31, .ref 35, .ref 37, .int (nI rk)]))] (some (.int (-2))) [(0, .inr (6, [.ref 1, .ref 5, .ref 7, .ref 10, .ref 18, .ref 26, .ref 31, .ref 35, .ref 37, .int (nI rk)]))] := by
  intro hp
  refine E_iload_n dX6_nods_0 rfl ?_
  refine E_i2l dX6_nods_1 ?_
  refine E_lconst (v := 1) dX6_nods_2 (by decide) ?_
  refine E_ldc2 dX6_nods_3 qX6_77 ?_
  refine E_callS (As := [.long (Int32.toInt64 x1), .long 1, .long 9]) (l' := [.long (Int32.toInt64 x1), .null, .long 1, .null, .long 9, .null]) (st := []) dX6_nods_6 kX6_73 sX6_isIn MX6_isIn rfl rfl (Nat.le_of_ble_eq_true rfl) (FC.use (c_isIn d _ _ _) rfl (L2 := [(0, .inr (6, [.ref 1, .ref 5, .ref 7, .ref 10, .ref 18, .ref 26, .ref 31, .ref 35, .ref 37, .int (nI rk)]))]) rfl) (Nat.le_of_ble_eq_true rfl) (fun _ _ hq9 => E_fgo ?_ hq9)
  show E _ _ 9 [.ref 0, .int x1, .int x2, .int x3, .int x4, .int x5, .int x6, .null, .null] [.int (b2i (inL (Int32.toInt64 x1) 1 9))] (hov hp [(0, .inr (6, [.ref 1, .ref 5, .ref 7, .ref 10, .ref 18, .ref 26, .ref 31, .ref 35, .ref 37, .int (nI rk)]))]) _
  refine E_if_eq (tgt := 49) dX6_nods_9 (by decide) (fun c => (b2i_x1 h0 c).elim) (fun _ => ?_)
  refine E_iload_n dX6_nods_12 rfl ?_
  refine E_i2l dX6_nods_13 ?_
  refine E_lconst (v := 1) dX6_nods_14 (by decide) ?_
  refine E_ldc2 dX6_nods_15 qX6_77 ?_
  refine E_callS (As := [.long (Int32.toInt64 x2), .long 1, .long 9]) (l' := [.long (Int32.toInt64 x2), .null, .long 1, .null, .long 9, .null]) (st := []) dX6_nods_18 kX6_73 sX6_isIn MX6_isIn rfl rfl (Nat.le_of_ble_eq_true rfl) (FC.use (c_isIn d _ _ _) rfl (L2 := [(0, .inr (6, [.ref 1, .ref 5, .ref 7, .ref 10, .ref 18, .ref 26, .ref 31, .ref 35, .ref 37, .int (nI rk)]))]) rfl) (Nat.le_of_ble_eq_true rfl) (fun _ _ hq9 => E_fgo ?_ hq9)
  show E _ _ 21 [.ref 0, .int x1, .int x2, .int x3, .int x4, .int x5, .int x6, .null, .null] [.int (b2i (inL (Int32.toInt64 x2) 1 9))] (hov hp [(0, .inr (6, [.ref 1, .ref 5, .ref 7, .ref 10, .ref 18, .ref 26, .ref 31, .ref 35, .ref 37, .int (nI rk)]))]) _
  refine E_if_eq (tgt := 49) dX6_nods_21 (by decide) (fun c => (b2i_x1 h1 c).elim) (fun _ => ?_)
  refine E_iload_n dX6_nods_24 rfl ?_
  refine E_i2l dX6_nods_25 ?_
  refine E_lconst (v := 1) dX6_nods_26 (by decide) ?_
  refine E_ldc2 dX6_nods_27 qX6_77 ?_
  refine E_callS (As := [.long (Int32.toInt64 x3), .long 1, .long 9]) (l' := [.long (Int32.toInt64 x3), .null, .long 1, .null, .long 9, .null]) (st := []) dX6_nods_30 kX6_73 sX6_isIn MX6_isIn rfl rfl (Nat.le_of_ble_eq_true rfl) (FC.use (c_isIn d _ _ _) rfl (L2 := [(0, .inr (6, [.ref 1, .ref 5, .ref 7, .ref 10, .ref 18, .ref 26, .ref 31, .ref 35, .ref 37, .int (nI rk)]))]) rfl) (Nat.le_of_ble_eq_true rfl) (fun _ _ hq9 => E_fgo ?_ hq9)
  show E _ _ 33 [.ref 0, .int x1, .int x2, .int x3, .int x4, .int x5, .int x6, .null, .null] [.int (b2i (inL (Int32.toInt64 x3) 1 9))] (hov hp [(0, .inr (6, [.ref 1, .ref 5, .ref 7, .ref 10, .ref 18, .ref 26, .ref 31, .ref 35, .ref 37, .int (nI rk)]))]) _
  refine E_if_eq (tgt := 49) dX6_nods_33 (by decide) (fun c => (b2i_x1 h2 c).elim) (fun _ => ?_)
  refine E_iload dX6_nods_36 rfl ?_
  refine E_i2l dX6_nods_38 ?_
  refine E_lconst (v := 1) dX6_nods_39 (by decide) ?_
  refine E_ldc2 dX6_nods_40 qX6_77 ?_
  refine E_callS (As := [.long (Int32.toInt64 x4), .long 1, .long 9]) (l' := [.long (Int32.toInt64 x4), .null, .long 1, .null, .long 9, .null]) (st := []) dX6_nods_43 kX6_73 sX6_isIn MX6_isIn rfl rfl (Nat.le_of_ble_eq_true rfl) (FC.use (c_isIn d _ _ _) rfl (L2 := [(0, .inr (6, [.ref 1, .ref 5, .ref 7, .ref 10, .ref 18, .ref 26, .ref 31, .ref 35, .ref 37, .int (nI rk)]))]) rfl) (Nat.le_of_ble_eq_true rfl) (fun _ _ hq9 => E_fgo ?_ hq9)
  show E _ _ 46 [.ref 0, .int x1, .int x2, .int x3, .int x4, .int x5, .int x6, .null, .null] [.int (b2i (inL (Int32.toInt64 x4) 1 9))] (hov hp [(0, .inr (6, [.ref 1, .ref 5, .ref 7, .ref 10, .ref 18, .ref 26, .ref 31, .ref 35, .ref 37, .int (nI rk)]))]) _
  refine E_if_ne (tgt := 52) dX6_nods_46 (by decide) (fun _ => ?_) (fun c => (b2i_x1 h3 c).elim)
  refine E_iload dX6_nods_52 rfl ?_
  refine E_i2l dX6_nods_54 ?_
  refine E_lconst (v := 0) dX6_nods_55 (by decide) ?_
  refine E_ldc2 dX6_nods_56 qX6_189 ?_
  refine E_callS (As := [.long (Int32.toInt64 x5), .long 0, .long 9999]) (l' := [.long (Int32.toInt64 x5), .null, .long 0, .null, .long 9999, .null]) (st := []) dX6_nods_59 kX6_73 sX6_isIn MX6_isIn rfl rfl (Nat.le_of_ble_eq_true rfl) (FC.use (c_isIn d _ _ _) rfl (L2 := [(0, .inr (6, [.ref 1, .ref 5, .ref 7, .ref 10, .ref 18, .ref 26, .ref 31, .ref 35, .ref 37, .int (nI rk)]))]) rfl) (Nat.le_of_ble_eq_true rfl) (fun _ _ hq9 => E_fgo ?_ hq9)
  show E _ _ 62 [.ref 0, .int x1, .int x2, .int x3, .int x4, .int x5, .int x6, .null, .null] [.int (b2i (inL (Int32.toInt64 x5) 0 9999))] (hov hp [(0, .inr (6, [.ref 1, .ref 5, .ref 7, .ref 10, .ref 18, .ref 26, .ref 31, .ref 35, .ref 37, .int (nI rk)]))]) _
  refine E_if_eq (tgt := 76) dX6_nods_62 (by decide) (fun c => (b2i_x1 h4 c).elim) (fun _ => ?_)
  refine E_iload dX6_nods_65 rfl ?_
  refine E_i2l dX6_nods_67 ?_
  refine E_lconst (v := 0) dX6_nods_68 (by decide) ?_
  refine E_lconst (v := 1) dX6_nods_69 (by decide) ?_
  refine E_callS (As := [.long (Int32.toInt64 x6), .long 0, .long 1]) (l' := [.long (Int32.toInt64 x6), .null, .long 0, .null, .long 1, .null]) (st := []) dX6_nods_70 kX6_73 sX6_isIn MX6_isIn rfl rfl (Nat.le_of_ble_eq_true rfl) (FC.use (c_isIn d _ _ _) rfl (L2 := [(0, .inr (6, [.ref 1, .ref 5, .ref 7, .ref 10, .ref 18, .ref 26, .ref 31, .ref 35, .ref 37, .int (nI rk)]))]) rfl) (Nat.le_of_ble_eq_true rfl) (fun _ _ hq9 => E_fgo ?_ hq9)
  show E _ _ 73 [.ref 0, .int x1, .int x2, .int x3, .int x4, .int x5, .int x6, .null, .null] [.int (b2i (inL (Int32.toInt64 x6) 0 1))] (hov hp [(0, .inr (6, [.ref 1, .ref 5, .ref 7, .ref 10, .ref 18, .ref 26, .ref 31, .ref 35, .ref 37, .int (nI rk)]))]) _
  refine E_if_ne (tgt := 79) dX6_nods_73 (by decide) (fun c => (b2i_x0 h5 c).elim) (fun _ => ?_)
  refine E_bipush (v := (-2)) dX6_nods_76 (by decide) ?_
  exact E_iretf dX6_nods_78 rfl rfl rfl rfl

set_option maxHeartbeats 4000000 in
set_option maxRecDepth 20000 in
theorem t_nods_0 (d : Nat) (rk a b c d' n P : Nat) (ha : 1 ≤ a) (ha2 : a ≤ 9) (hb : 1 ≤ b) (hb2 : b ≤ 9) (hc : 1 ≤ c) (hc2 : c ≤ 9) (hd : 1 ≤ d') (hd2 : d' ≤ 9) (hn : n < 10000) (hPe : (a + b) * (c + d') = P) (hP1 : 4 ≤ P) (hP2 : P ≤ 324) (h0 : inL (Int32.toInt64 (nI a)) 1 9 = true) (h1 : inL (Int32.toInt64 (nI b)) 1 9 = true) (h2 : inL (Int32.toInt64 (nI c)) 1 9 = true) (h3 : inL (Int32.toInt64 (nI d')) 1 9 = true) (h4 : inL (Int32.toInt64 (nI n)) 0 9999 = true) : FC YX6_nods (d + 2) [.ref 0, .int (nI a), .int (nI b), .int (nI c), .int (nI d'), .int (nI n), .int 0, .null, .null] [(0, .inr (6, [.ref 1, .ref 5, .ref 7, .ref 10, .ref 18, .ref 26, .ref 31, .ref 35, .ref 37, .int (nI rk)]))] (some (.int (nI (n / P * cntS (bth a b c d') P + cntS (bth a b c d') (n % P))))) [(0, .inr (6, [.ref 1, .ref 5, .ref 7, .ref 10, .ref 18, .ref 26, .ref 31, .ref 35, .ref 37, .int (nI rk)]))] := by
  intro hp
  have hm := Nat.mod_lt n (show 0 < P by omega)
  refine E_iload_n dX6_nods_0 rfl ?_
  refine E_i2l dX6_nods_1 ?_
  refine E_lconst (v := 1) dX6_nods_2 (by decide) ?_
  refine E_ldc2 dX6_nods_3 qX6_77 ?_
  refine E_callS (As := [.long (Int32.toInt64 (nI a)), .long 1, .long 9]) (l' := [.long (Int32.toInt64 (nI a)), .null, .long 1, .null, .long 9, .null]) (st := []) dX6_nods_6 kX6_73 sX6_isIn MX6_isIn rfl rfl (Nat.le_of_ble_eq_true rfl) (FC.use (c_isIn (d + 1) _ _ _) rfl (L2 := [(0, .inr (6, [.ref 1, .ref 5, .ref 7, .ref 10, .ref 18, .ref 26, .ref 31, .ref 35, .ref 37, .int (nI rk)]))]) rfl) (Nat.le_of_ble_eq_true rfl) (fun _ _ hq9 => E_fgo ?_ hq9)
  show E _ _ 9 [.ref 0, .int (nI a), .int (nI b), .int (nI c), .int (nI d'), .int (nI n), .int 0, .null, .null] [.int (b2i (inL (Int32.toInt64 (nI a)) 1 9))] (hov hp [(0, .inr (6, [.ref 1, .ref 5, .ref 7, .ref 10, .ref 18, .ref 26, .ref 31, .ref 35, .ref 37, .int (nI rk)]))]) _
  refine E_if_eq (tgt := 49) dX6_nods_9 (by decide) (fun c => (b2i_x1 h0 c).elim) (fun _ => ?_)
  refine E_iload_n dX6_nods_12 rfl ?_
  refine E_i2l dX6_nods_13 ?_
  refine E_lconst (v := 1) dX6_nods_14 (by decide) ?_
  refine E_ldc2 dX6_nods_15 qX6_77 ?_
  refine E_callS (As := [.long (Int32.toInt64 (nI b)), .long 1, .long 9]) (l' := [.long (Int32.toInt64 (nI b)), .null, .long 1, .null, .long 9, .null]) (st := []) dX6_nods_18 kX6_73 sX6_isIn MX6_isIn rfl rfl (Nat.le_of_ble_eq_true rfl) (FC.use (c_isIn (d + 1) _ _ _) rfl (L2 := [(0, .inr (6, [.ref 1, .ref 5, .ref 7, .ref 10, .ref 18, .ref 26, .ref 31, .ref 35, .ref 37, .int (nI rk)]))]) rfl) (Nat.le_of_ble_eq_true rfl) (fun _ _ hq9 => E_fgo ?_ hq9)
  show E _ _ 21 [.ref 0, .int (nI a), .int (nI b), .int (nI c), .int (nI d'), .int (nI n), .int 0, .null, .null] [.int (b2i (inL (Int32.toInt64 (nI b)) 1 9))] (hov hp [(0, .inr (6, [.ref 1, .ref 5, .ref 7, .ref 10, .ref 18, .ref 26, .ref 31, .ref 35, .ref 37, .int (nI rk)]))]) _
  refine E_if_eq (tgt := 49) dX6_nods_21 (by decide) (fun c => (b2i_x1 h1 c).elim) (fun _ => ?_)
  refine E_iload_n dX6_nods_24 rfl ?_
  refine E_i2l dX6_nods_25 ?_
  refine E_lconst (v := 1) dX6_nods_26 (by decide) ?_
  refine E_ldc2 dX6_nods_27 qX6_77 ?_
  refine E_callS (As := [.long (Int32.toInt64 (nI c)), .long 1, .long 9]) (l' := [.long (Int32.toInt64 (nI c)), .null, .long 1, .null, .long 9, .null]) (st := []) dX6_nods_30 kX6_73 sX6_isIn MX6_isIn rfl rfl (Nat.le_of_ble_eq_true rfl) (FC.use (c_isIn (d + 1) _ _ _) rfl (L2 := [(0, .inr (6, [.ref 1, .ref 5, .ref 7, .ref 10, .ref 18, .ref 26, .ref 31, .ref 35, .ref 37, .int (nI rk)]))]) rfl) (Nat.le_of_ble_eq_true rfl) (fun _ _ hq9 => E_fgo ?_ hq9)
  show E _ _ 33 [.ref 0, .int (nI a), .int (nI b), .int (nI c), .int (nI d'), .int (nI n), .int 0, .null, .null] [.int (b2i (inL (Int32.toInt64 (nI c)) 1 9))] (hov hp [(0, .inr (6, [.ref 1, .ref 5, .ref 7, .ref 10, .ref 18, .ref 26, .ref 31, .ref 35, .ref 37, .int (nI rk)]))]) _
  refine E_if_eq (tgt := 49) dX6_nods_33 (by decide) (fun c => (b2i_x1 h2 c).elim) (fun _ => ?_)
  refine E_iload dX6_nods_36 rfl ?_
  refine E_i2l dX6_nods_38 ?_
  refine E_lconst (v := 1) dX6_nods_39 (by decide) ?_
  refine E_ldc2 dX6_nods_40 qX6_77 ?_
  refine E_callS (As := [.long (Int32.toInt64 (nI d')), .long 1, .long 9]) (l' := [.long (Int32.toInt64 (nI d')), .null, .long 1, .null, .long 9, .null]) (st := []) dX6_nods_43 kX6_73 sX6_isIn MX6_isIn rfl rfl (Nat.le_of_ble_eq_true rfl) (FC.use (c_isIn (d + 1) _ _ _) rfl (L2 := [(0, .inr (6, [.ref 1, .ref 5, .ref 7, .ref 10, .ref 18, .ref 26, .ref 31, .ref 35, .ref 37, .int (nI rk)]))]) rfl) (Nat.le_of_ble_eq_true rfl) (fun _ _ hq9 => E_fgo ?_ hq9)
  show E _ _ 46 [.ref 0, .int (nI a), .int (nI b), .int (nI c), .int (nI d'), .int (nI n), .int 0, .null, .null] [.int (b2i (inL (Int32.toInt64 (nI d')) 1 9))] (hov hp [(0, .inr (6, [.ref 1, .ref 5, .ref 7, .ref 10, .ref 18, .ref 26, .ref 31, .ref 35, .ref 37, .int (nI rk)]))]) _
  refine E_if_ne (tgt := 52) dX6_nods_46 (by decide) (fun _ => ?_) (fun c => (b2i_x1 h3 c).elim)
  refine E_iload dX6_nods_52 rfl ?_
  refine E_i2l dX6_nods_54 ?_
  refine E_lconst (v := 0) dX6_nods_55 (by decide) ?_
  refine E_ldc2 dX6_nods_56 qX6_189 ?_
  refine E_callS (As := [.long (Int32.toInt64 (nI n)), .long 0, .long 9999]) (l' := [.long (Int32.toInt64 (nI n)), .null, .long 0, .null, .long 9999, .null]) (st := []) dX6_nods_59 kX6_73 sX6_isIn MX6_isIn rfl rfl (Nat.le_of_ble_eq_true rfl) (FC.use (c_isIn (d + 1) _ _ _) rfl (L2 := [(0, .inr (6, [.ref 1, .ref 5, .ref 7, .ref 10, .ref 18, .ref 26, .ref 31, .ref 35, .ref 37, .int (nI rk)]))]) rfl) (Nat.le_of_ble_eq_true rfl) (fun _ _ hq9 => E_fgo ?_ hq9)
  show E _ _ 62 [.ref 0, .int (nI a), .int (nI b), .int (nI c), .int (nI d'), .int (nI n), .int 0, .null, .null] [.int (b2i (inL (Int32.toInt64 (nI n)) 0 9999))] (hov hp [(0, .inr (6, [.ref 1, .ref 5, .ref 7, .ref 10, .ref 18, .ref 26, .ref 31, .ref 35, .ref 37, .int (nI rk)]))]) _
  refine E_if_eq (tgt := 76) dX6_nods_62 (by decide) (fun c => (b2i_x1 h4 c).elim) (fun _ => ?_)
  refine E_iload dX6_nods_65 rfl ?_
  refine E_i2l dX6_nods_67 ?_
  refine E_lconst (v := 0) dX6_nods_68 (by decide) ?_
  refine E_lconst (v := 1) dX6_nods_69 (by decide) ?_
  refine E_callS (As := [.long (Int32.toInt64 0), .long 0, .long 1]) (l' := [.long (Int32.toInt64 0), .null, .long 0, .null, .long 1, .null]) (st := []) dX6_nods_70 kX6_73 sX6_isIn MX6_isIn rfl rfl (Nat.le_of_ble_eq_true rfl) (FC.use (c_isIn (d + 1) _ _ _) rfl (L2 := [(0, .inr (6, [.ref 1, .ref 5, .ref 7, .ref 10, .ref 18, .ref 26, .ref 31, .ref 35, .ref 37, .int (nI rk)]))]) rfl) (Nat.le_of_ble_eq_true rfl) (fun _ _ hq9 => E_fgo ?_ hq9)
  show E _ _ 73 [.ref 0, .int (nI a), .int (nI b), .int (nI c), .int (nI d'), .int (nI n), .int 0, .null, .null] [.int (b2i (inL (Int32.toInt64 0) 0 1))] (hov hp [(0, .inr (6, [.ref 1, .ref 5, .ref 7, .ref 10, .ref 18, .ref 26, .ref 31, .ref 35, .ref 37, .int (nI rk)]))]) _
  refine E_if_ne (tgt := 79) dX6_nods_73 (by decide) (fun _ => ?_) (fun c => (b2i_x1 (by decide) c).elim)
  refine E_iload_n dX6_nods_79 rfl ?_
  refine E_iload_n dX6_nods_80 rfl ?_
  refine E_iadd dX6_nods_81 ?_
  refine E_eqi (y := nI (a + b)) (nI_add _ _) ?_
  refine E_iload_n dX6_nods_82 rfl ?_
  refine E_iload dX6_nods_83 rfl ?_
  refine E_iadd dX6_nods_85 ?_
  refine E_eqi (y := nI (c + d')) (nI_add _ _) ?_
  refine E_imul dX6_nods_86 ?_
  refine E_eqi (y := nI P) ((pk_mul _ _).trans (by rw [hPe])) ?_
  refine E_istore (l2 := [.ref 0, .int (nI a), .int (nI b), .int (nI c), .int (nI d'), .int (nI n), .int 0, .int (nI P), .null]) dX6_nods_87 (by decide) rfl ?_
  refine E_iload dX6_nods_89 rfl ?_
  refine E_iconst (v := 1) dX6_nods_91 (by decide) ?_
  refine E_icmp_ne (tgt := 106) dX6_nods_92 (by decide) (fun _ => ?_) (fun c => by first | exact absurd c (by decide) | exact absurd (by decide) c)
  refine E_iload_n dX6_nods_106 rfl ?_
  refine E_iload_n dX6_nods_107 rfl ?_
  refine E_iload_n dX6_nods_108 rfl ?_
  refine E_iload dX6_nods_109 rfl ?_
  refine E_iload dX6_nods_111 rfl ?_
  refine E_callS (As := [.int (nI a), .int (nI b), .int (nI c), .int (nI d'), .int (nI P)]) (l' := [.int (nI a), .int (nI b), .int (nI c), .int (nI d'), .int (nI P), .null, .null]) (st := []) dX6_nods_113 kX6_195 sX6_nightsAsleep MX6_nightsAsleep rfl rfl (Nat.le_of_ble_eq_true rfl) (FC.use (c_nightsAsleep d a b c d' P ha ha2 hb hb2 hc hc2 hd hd2 (by omega)) rfl (L2 := [(0, .inr (6, [.ref 1, .ref 5, .ref 7, .ref 10, .ref 18, .ref 26, .ref 31, .ref 35, .ref 37, .int (nI rk)]))]) rfl) (Nat.le_of_ble_eq_true rfl) (fun _ _ hq9 => E_fgo ?_ hq9)
  show E _ _ 116 [.ref 0, .int (nI a), .int (nI b), .int (nI c), .int (nI d'), .int (nI n), .int 0, .int (nI P), .null] [.int (nI (cntS (bth a b c d') P))] (hov hp [(0, .inr (6, [.ref 1, .ref 5, .ref 7, .ref 10, .ref 18, .ref 26, .ref 31, .ref 35, .ref 37, .int (nI rk)]))]) _
  refine E_istore (l2 := [.ref 0, .int (nI a), .int (nI b), .int (nI c), .int (nI d'), .int (nI n), .int 0, .int (nI P), .int (nI (cntS (bth a b c d') P))]) dX6_nods_116 (by decide) rfl ?_
  refine E_iload dX6_nods_118 rfl ?_
  refine E_iload dX6_nods_120 rfl ?_
  refine E_idiv dX6_nods_122 (nI_ne0 (by omega) (by omega)) ?_
  refine E_eqi (y := nI (n / P)) (nI_d (by omega) (by omega) (by omega)) ?_
  refine E_iload dX6_nods_123 rfl ?_
  refine E_imul dX6_nods_125 ?_
  refine E_eqi (y := nI (n / P * cntS (bth a b c d') P)) (pk_mul _ _) ?_
  refine E_iload_n dX6_nods_126 rfl ?_
  refine E_iload_n dX6_nods_127 rfl ?_
  refine E_iload_n dX6_nods_128 rfl ?_
  refine E_iload dX6_nods_129 rfl ?_
  refine E_iload dX6_nods_131 rfl ?_
  refine E_iload dX6_nods_133 rfl ?_
  refine E_irem dX6_nods_135 (nI_ne0 (by omega) (by omega)) ?_
  refine E_eqi (y := nI (n % P)) (nI_r (by omega) (by omega) (by omega)) ?_
  refine E_callS (As := [.int (nI a), .int (nI b), .int (nI c), .int (nI d'), .int (nI (n % P))]) (l' := [.int (nI a), .int (nI b), .int (nI c), .int (nI d'), .int (nI (n % P)), .null, .null]) (st := [.int (nI (n / P * cntS (bth a b c d') P))]) dX6_nods_136 kX6_195 sX6_nightsAsleep MX6_nightsAsleep rfl rfl (Nat.le_of_ble_eq_true rfl) (FC.use (c_nightsAsleep d a b c d' (n % P) ha ha2 hb hb2 hc hc2 hd hd2 (by omega)) rfl (L2 := [(0, .inr (6, [.ref 1, .ref 5, .ref 7, .ref 10, .ref 18, .ref 26, .ref 31, .ref 35, .ref 37, .int (nI rk)]))]) rfl) (Nat.le_of_ble_eq_true rfl) (fun _ _ hq9 => E_fgo ?_ hq9)
  show E _ _ 139 [.ref 0, .int (nI a), .int (nI b), .int (nI c), .int (nI d'), .int (nI n), .int 0, .int (nI P), .int (nI (cntS (bth a b c d') P))] [.int (nI (cntS (bth a b c d') (n % P))), .int (nI (n / P * cntS (bth a b c d') P))] (hov hp [(0, .inr (6, [.ref 1, .ref 5, .ref 7, .ref 10, .ref 18, .ref 26, .ref 31, .ref 35, .ref 37, .int (nI rk)]))]) _
  refine E_iadd dX6_nods_139 ?_
  refine E_eqi (y := nI (n / P * cntS (bth a b c d') P + cntS (bth a b c d') (n % P))) (nI_add _ _) ?_
  exact E_iretf dX6_nods_140 rfl rfl rfl rfl

set_option maxHeartbeats 4000000 in
set_option maxRecDepth 20000 in
theorem t_nods_1 (d : Nat) (rk a b c d' n P : Nat) (ha : 1 ≤ a) (ha2 : a ≤ 9) (hb : 1 ≤ b) (hb2 : b ≤ 9) (hc : 1 ≤ c) (hc2 : c ≤ 9) (hd : 1 ≤ d') (hd2 : d' ≤ 9) (hn : n < 10000) (hPe : (a + b) * (c + d') = P) (hP1 : 4 ≤ P) (hP2 : P ≤ 324) (h0 : inL (Int32.toInt64 (nI a)) 1 9 = true) (h1 : inL (Int32.toInt64 (nI b)) 1 9 = true) (h2 : inL (Int32.toInt64 (nI c)) 1 9 = true) (h3 : inL (Int32.toInt64 (nI d')) 1 9 = true) (h4 : inL (Int32.toInt64 (nI n)) 0 9999 = true) (j : Nat) (hj : j < P) (hpj : bth a b c d' j = true) (hno : ∀ i, i < j → bth a b c d' i = false) : FC YX6_nods (d + 2) [.ref 0, .int (nI a), .int (nI b), .int (nI c), .int (nI d'), .int (nI n), .int 1, .null, .null] [(0, .inr (6, [.ref 1, .ref 5, .ref 7, .ref 10, .ref 18, .ref 26, .ref 31, .ref 35, .ref 37, .int (nI rk)]))] (some (.int (nI (j + 1)))) [(0, .inr (6, [.ref 1, .ref 5, .ref 7, .ref 10, .ref 18, .ref 26, .ref 31, .ref 35, .ref 37, .int (nI rk)]))] := by
  intro hp
  have hm := Nat.mod_lt n (show 0 < P by omega)
  refine E_iload_n dX6_nods_0 rfl ?_
  refine E_i2l dX6_nods_1 ?_
  refine E_lconst (v := 1) dX6_nods_2 (by decide) ?_
  refine E_ldc2 dX6_nods_3 qX6_77 ?_
  refine E_callS (As := [.long (Int32.toInt64 (nI a)), .long 1, .long 9]) (l' := [.long (Int32.toInt64 (nI a)), .null, .long 1, .null, .long 9, .null]) (st := []) dX6_nods_6 kX6_73 sX6_isIn MX6_isIn rfl rfl (Nat.le_of_ble_eq_true rfl) (FC.use (c_isIn (d + 1) _ _ _) rfl (L2 := [(0, .inr (6, [.ref 1, .ref 5, .ref 7, .ref 10, .ref 18, .ref 26, .ref 31, .ref 35, .ref 37, .int (nI rk)]))]) rfl) (Nat.le_of_ble_eq_true rfl) (fun _ _ hq9 => E_fgo ?_ hq9)
  show E _ _ 9 [.ref 0, .int (nI a), .int (nI b), .int (nI c), .int (nI d'), .int (nI n), .int 1, .null, .null] [.int (b2i (inL (Int32.toInt64 (nI a)) 1 9))] (hov hp [(0, .inr (6, [.ref 1, .ref 5, .ref 7, .ref 10, .ref 18, .ref 26, .ref 31, .ref 35, .ref 37, .int (nI rk)]))]) _
  refine E_if_eq (tgt := 49) dX6_nods_9 (by decide) (fun c => (b2i_x1 h0 c).elim) (fun _ => ?_)
  refine E_iload_n dX6_nods_12 rfl ?_
  refine E_i2l dX6_nods_13 ?_
  refine E_lconst (v := 1) dX6_nods_14 (by decide) ?_
  refine E_ldc2 dX6_nods_15 qX6_77 ?_
  refine E_callS (As := [.long (Int32.toInt64 (nI b)), .long 1, .long 9]) (l' := [.long (Int32.toInt64 (nI b)), .null, .long 1, .null, .long 9, .null]) (st := []) dX6_nods_18 kX6_73 sX6_isIn MX6_isIn rfl rfl (Nat.le_of_ble_eq_true rfl) (FC.use (c_isIn (d + 1) _ _ _) rfl (L2 := [(0, .inr (6, [.ref 1, .ref 5, .ref 7, .ref 10, .ref 18, .ref 26, .ref 31, .ref 35, .ref 37, .int (nI rk)]))]) rfl) (Nat.le_of_ble_eq_true rfl) (fun _ _ hq9 => E_fgo ?_ hq9)
  show E _ _ 21 [.ref 0, .int (nI a), .int (nI b), .int (nI c), .int (nI d'), .int (nI n), .int 1, .null, .null] [.int (b2i (inL (Int32.toInt64 (nI b)) 1 9))] (hov hp [(0, .inr (6, [.ref 1, .ref 5, .ref 7, .ref 10, .ref 18, .ref 26, .ref 31, .ref 35, .ref 37, .int (nI rk)]))]) _
  refine E_if_eq (tgt := 49) dX6_nods_21 (by decide) (fun c => (b2i_x1 h1 c).elim) (fun _ => ?_)
  refine E_iload_n dX6_nods_24 rfl ?_
  refine E_i2l dX6_nods_25 ?_
  refine E_lconst (v := 1) dX6_nods_26 (by decide) ?_
  refine E_ldc2 dX6_nods_27 qX6_77 ?_
  refine E_callS (As := [.long (Int32.toInt64 (nI c)), .long 1, .long 9]) (l' := [.long (Int32.toInt64 (nI c)), .null, .long 1, .null, .long 9, .null]) (st := []) dX6_nods_30 kX6_73 sX6_isIn MX6_isIn rfl rfl (Nat.le_of_ble_eq_true rfl) (FC.use (c_isIn (d + 1) _ _ _) rfl (L2 := [(0, .inr (6, [.ref 1, .ref 5, .ref 7, .ref 10, .ref 18, .ref 26, .ref 31, .ref 35, .ref 37, .int (nI rk)]))]) rfl) (Nat.le_of_ble_eq_true rfl) (fun _ _ hq9 => E_fgo ?_ hq9)
  show E _ _ 33 [.ref 0, .int (nI a), .int (nI b), .int (nI c), .int (nI d'), .int (nI n), .int 1, .null, .null] [.int (b2i (inL (Int32.toInt64 (nI c)) 1 9))] (hov hp [(0, .inr (6, [.ref 1, .ref 5, .ref 7, .ref 10, .ref 18, .ref 26, .ref 31, .ref 35, .ref 37, .int (nI rk)]))]) _
  refine E_if_eq (tgt := 49) dX6_nods_33 (by decide) (fun c => (b2i_x1 h2 c).elim) (fun _ => ?_)
  refine E_iload dX6_nods_36 rfl ?_
  refine E_i2l dX6_nods_38 ?_
  refine E_lconst (v := 1) dX6_nods_39 (by decide) ?_
  refine E_ldc2 dX6_nods_40 qX6_77 ?_
  refine E_callS (As := [.long (Int32.toInt64 (nI d')), .long 1, .long 9]) (l' := [.long (Int32.toInt64 (nI d')), .null, .long 1, .null, .long 9, .null]) (st := []) dX6_nods_43 kX6_73 sX6_isIn MX6_isIn rfl rfl (Nat.le_of_ble_eq_true rfl) (FC.use (c_isIn (d + 1) _ _ _) rfl (L2 := [(0, .inr (6, [.ref 1, .ref 5, .ref 7, .ref 10, .ref 18, .ref 26, .ref 31, .ref 35, .ref 37, .int (nI rk)]))]) rfl) (Nat.le_of_ble_eq_true rfl) (fun _ _ hq9 => E_fgo ?_ hq9)
  show E _ _ 46 [.ref 0, .int (nI a), .int (nI b), .int (nI c), .int (nI d'), .int (nI n), .int 1, .null, .null] [.int (b2i (inL (Int32.toInt64 (nI d')) 1 9))] (hov hp [(0, .inr (6, [.ref 1, .ref 5, .ref 7, .ref 10, .ref 18, .ref 26, .ref 31, .ref 35, .ref 37, .int (nI rk)]))]) _
  refine E_if_ne (tgt := 52) dX6_nods_46 (by decide) (fun _ => ?_) (fun c => (b2i_x1 h3 c).elim)
  refine E_iload dX6_nods_52 rfl ?_
  refine E_i2l dX6_nods_54 ?_
  refine E_lconst (v := 0) dX6_nods_55 (by decide) ?_
  refine E_ldc2 dX6_nods_56 qX6_189 ?_
  refine E_callS (As := [.long (Int32.toInt64 (nI n)), .long 0, .long 9999]) (l' := [.long (Int32.toInt64 (nI n)), .null, .long 0, .null, .long 9999, .null]) (st := []) dX6_nods_59 kX6_73 sX6_isIn MX6_isIn rfl rfl (Nat.le_of_ble_eq_true rfl) (FC.use (c_isIn (d + 1) _ _ _) rfl (L2 := [(0, .inr (6, [.ref 1, .ref 5, .ref 7, .ref 10, .ref 18, .ref 26, .ref 31, .ref 35, .ref 37, .int (nI rk)]))]) rfl) (Nat.le_of_ble_eq_true rfl) (fun _ _ hq9 => E_fgo ?_ hq9)
  show E _ _ 62 [.ref 0, .int (nI a), .int (nI b), .int (nI c), .int (nI d'), .int (nI n), .int 1, .null, .null] [.int (b2i (inL (Int32.toInt64 (nI n)) 0 9999))] (hov hp [(0, .inr (6, [.ref 1, .ref 5, .ref 7, .ref 10, .ref 18, .ref 26, .ref 31, .ref 35, .ref 37, .int (nI rk)]))]) _
  refine E_if_eq (tgt := 76) dX6_nods_62 (by decide) (fun c => (b2i_x1 h4 c).elim) (fun _ => ?_)
  refine E_iload dX6_nods_65 rfl ?_
  refine E_i2l dX6_nods_67 ?_
  refine E_lconst (v := 0) dX6_nods_68 (by decide) ?_
  refine E_lconst (v := 1) dX6_nods_69 (by decide) ?_
  refine E_callS (As := [.long (Int32.toInt64 1), .long 0, .long 1]) (l' := [.long (Int32.toInt64 1), .null, .long 0, .null, .long 1, .null]) (st := []) dX6_nods_70 kX6_73 sX6_isIn MX6_isIn rfl rfl (Nat.le_of_ble_eq_true rfl) (FC.use (c_isIn (d + 1) _ _ _) rfl (L2 := [(0, .inr (6, [.ref 1, .ref 5, .ref 7, .ref 10, .ref 18, .ref 26, .ref 31, .ref 35, .ref 37, .int (nI rk)]))]) rfl) (Nat.le_of_ble_eq_true rfl) (fun _ _ hq9 => E_fgo ?_ hq9)
  show E _ _ 73 [.ref 0, .int (nI a), .int (nI b), .int (nI c), .int (nI d'), .int (nI n), .int 1, .null, .null] [.int (b2i (inL (Int32.toInt64 1) 0 1))] (hov hp [(0, .inr (6, [.ref 1, .ref 5, .ref 7, .ref 10, .ref 18, .ref 26, .ref 31, .ref 35, .ref 37, .int (nI rk)]))]) _
  refine E_if_ne (tgt := 79) dX6_nods_73 (by decide) (fun _ => ?_) (fun c => (b2i_x1 (by decide) c).elim)
  refine E_iload_n dX6_nods_79 rfl ?_
  refine E_iload_n dX6_nods_80 rfl ?_
  refine E_iadd dX6_nods_81 ?_
  refine E_eqi (y := nI (a + b)) (nI_add _ _) ?_
  refine E_iload_n dX6_nods_82 rfl ?_
  refine E_iload dX6_nods_83 rfl ?_
  refine E_iadd dX6_nods_85 ?_
  refine E_eqi (y := nI (c + d')) (nI_add _ _) ?_
  refine E_imul dX6_nods_86 ?_
  refine E_eqi (y := nI P) ((pk_mul _ _).trans (by rw [hPe])) ?_
  refine E_istore (l2 := [.ref 0, .int (nI a), .int (nI b), .int (nI c), .int (nI d'), .int (nI n), .int 1, .int (nI P), .null]) dX6_nods_87 (by decide) rfl ?_
  refine E_iload dX6_nods_89 rfl ?_
  refine E_iconst (v := 1) dX6_nods_91 (by decide) ?_
  refine E_icmp_ne (tgt := 106) dX6_nods_92 (by decide) (fun c => by first | exact absurd c (by decide) | exact absurd (by decide) c) (fun _ => ?_)
  refine E_iload_n dX6_nods_95 rfl ?_
  refine E_iload_n dX6_nods_96 rfl ?_
  refine E_iload_n dX6_nods_97 rfl ?_
  refine E_iload dX6_nods_98 rfl ?_
  refine E_iload dX6_nods_100 rfl ?_
  refine E_callS (As := [.int (nI a), .int (nI b), .int (nI c), .int (nI d'), .int (nI P)]) (l' := [.int (nI a), .int (nI b), .int (nI c), .int (nI d'), .int (nI P), .null]) (st := []) dX6_nods_102 kX6_191 sX6_firstNightAsleep MX6_firstNightAsleep rfl rfl (Nat.le_of_ble_eq_true rfl) (FC.use (c_firstNight d a b c d' P j ha ha2 hb hb2 hc hc2 hd hd2 (by omega) hj hpj hno) rfl (L2 := [(0, .inr (6, [.ref 1, .ref 5, .ref 7, .ref 10, .ref 18, .ref 26, .ref 31, .ref 35, .ref 37, .int (nI rk)]))]) rfl) (Nat.le_of_ble_eq_true rfl) (fun _ _ hq9 => E_fgo ?_ hq9)
  show E _ _ 105 [.ref 0, .int (nI a), .int (nI b), .int (nI c), .int (nI d'), .int (nI n), .int 1, .int (nI P), .null] [.int (nI (j + 1))] (hov hp [(0, .inr (6, [.ref 1, .ref 5, .ref 7, .ref 10, .ref 18, .ref 26, .ref 31, .ref 35, .ref 37, .int (nI rk)]))]) _
  exact E_iretf dX6_nods_105 rfl rfl rfl rfl

set_option maxHeartbeats 4000000 in
set_option maxRecDepth 20000 in
theorem c_lnr (d : Nat) (rk : Nat) (rv : Nat → Int32) (row : Nat) (h1 : 1 ≤ row) (h2 : row ≤ 60) (hrv : ∀ i, i < row → rv i = nI (K i)) : FC YX6_leastNotReached d [.ref 0, .int (nI row), .null, .null, .null, .null] [(0, .inr (6, [.ref 1, .ref 5, .ref 7, .ref 10, .ref 18, .ref 26, .ref 31, .ref 35, .ref 37, .int (nI rk)])), (37, .inl (false, 61, rv))] (some (.int (nI (K row)))) [(0, .inr (6, [.ref 1, .ref 5, .ref 7, .ref 10, .ref 18, .ref 26, .ref 31, .ref 35, .ref 37, .int (nI rk)])), (37, .inl (false, 61, rv))] := by
  intro hp
  have hz := lnr_ok row (by omega) h1
  refine E_lconst (v := 0) dX6_leastNotReached_0 (by decide) ?_
  refine E_lstore_n (l2 := [.ref 0, .int (nI row), .long 0, .null, .null, .null]) dX6_leastNotReached_1 rfl (by decide) rfl ?_
  refine E_iconst (v := 1) dX6_leastNotReached_2 (by decide) ?_
  refine E_istore (l2 := [.ref 0, .int (nI row), .long 0, .null, .int 1, .null]) dX6_leastNotReached_3 (by decide) rfl ?_
  refine E_iload dX6_leastNotReached_5 rfl ?_
  refine E_iconst (v := 2) dX6_leastNotReached_7 (by decide) ?_
  refine E_icmp_gt (tgt := 60) dX6_leastNotReached_8 (by decide) (fun c => by first | exact absurd c (by decide) | exact absurd (by decide) c) (fun _ => ?_)
  refine E_iconst (v := 0) dX6_leastNotReached_11 (by decide) ?_
  refine E_istore (l2 := [.ref 0, .int (nI row), .long 0, .null, .int 1, .int 0]) dX6_leastNotReached_12 (by decide) rfl ?_
  have L1 : ∀ i, i ≤ row → E YX6_leastNotReached d 14 [.ref 0, .int (nI row), .long (rc row 1 0 i), .null, .int 1, .int (nI i)] [] (hov hp [(0, .inr (6, [.ref 1, .ref 5, .ref 7, .ref 10, .ref 18, .ref 26, .ref 31, .ref 35, .ref 37, .int (nI rk)])), (37, .inl (false, 61, rv))]) (fun v h' => v = some (.int (nI (K row))) ∧ h' = hov hp [(0, .inr (6, [.ref 1, .ref 5, .ref 7, .ref 10, .ref 18, .ref 26, .ref 31, .ref 35, .ref 37, .int (nI rk)])), (37, .inl (false, 61, rv))]) := by
    refine down (row) ?_ ?_
    · refine E_iload dX6_leastNotReached_14 rfl ?_
      refine E_iload dX6_leastNotReached_16 rfl ?_
      refine E_iadd dX6_leastNotReached_18 ?_
      refine E_eqi (y := nI (row + 1)) (nI_1 _) ?_
      refine E_iload_n dX6_leastNotReached_19 rfl ?_
      refine E_icmp_gt (tgt := 54) dX6_leastNotReached_20 (by decide) (fun _ => ?_) (fun c => absurd (nI_lt (by omega) (by omega)) c)
      refine E_iinc (y := 2) (l2 := [.ref 0, .int (nI row), .long (rc row 1 0 row), .null, .int 2, .int (nI row)]) dX6_leastNotReached_54 rfl (by decide) (by decide) rfl ?_
      refine E_goto (tgt := 5) dX6_leastNotReached_57 (by decide) ?_
      refine E_iload dX6_leastNotReached_5 rfl ?_
      refine E_iconst (v := 2) dX6_leastNotReached_7 (by decide) ?_
      refine E_icmp_gt (tgt := 60) dX6_leastNotReached_8 (by decide) (fun c => by first | exact absurd c (by decide) | exact absurd (by decide) c) (fun _ => ?_)
      refine E_iconst (v := 0) dX6_leastNotReached_11 (by decide) ?_
      refine E_istore (l2 := [.ref 0, .int (nI row), .long (rc row 1 0 row), .null, .int 2, .int 0]) dX6_leastNotReached_12 (by decide) rfl ?_
      have L2 : ∀ i, i ≤ row - 1 → E YX6_leastNotReached d 14 [.ref 0, .int (nI row), .long (rc row 2 (rc row 1 0 row) i), .null, .int 2, .int (nI i)] [] (hov hp [(0, .inr (6, [.ref 1, .ref 5, .ref 7, .ref 10, .ref 18, .ref 26, .ref 31, .ref 35, .ref 37, .int (nI rk)])), (37, .inl (false, 61, rv))]) (fun v h' => v = some (.int (nI (K row))) ∧ h' = hov hp [(0, .inr (6, [.ref 1, .ref 5, .ref 7, .ref 10, .ref 18, .ref 26, .ref 31, .ref 35, .ref 37, .int (nI rk)])), (37, .inl (false, 61, rv))]) := by
        refine down (row - 1) ?_ ?_
        · refine E_iload dX6_leastNotReached_14 rfl ?_
          refine E_iload dX6_leastNotReached_16 rfl ?_
          refine E_iadd dX6_leastNotReached_18 ?_
          refine E_eqi (y := nI (row - 1 + 2)) (nI_add _ 2) ?_
          refine E_iload_n dX6_leastNotReached_19 rfl ?_
          refine E_icmp_gt (tgt := 54) dX6_leastNotReached_20 (by decide) (fun _ => ?_) (fun c => absurd (nI_lt (by omega) (by omega)) c)
          refine E_iinc (y := 3) (l2 := [.ref 0, .int (nI row), .long (rc row 2 (rc row 1 0 row) (row - 1)), .null, .int 3, .int (nI (row - 1))]) dX6_leastNotReached_54 rfl (by decide) (by decide) rfl ?_
          refine E_goto (tgt := 5) dX6_leastNotReached_57 (by decide) ?_
          refine E_iload dX6_leastNotReached_5 rfl ?_
          refine E_iconst (v := 2) dX6_leastNotReached_7 (by decide) ?_
          refine E_icmp_gt (tgt := 60) dX6_leastNotReached_8 (by decide) (fun _ => ?_) (fun c => by first | exact absurd c (by decide) | exact absurd (by decide) c)
          refine E_iconst (v := 0) dX6_leastNotReached_60 (by decide) ?_
          refine E_istore (l2 := [.ref 0, .int (nI row), .long (rc row 2 (rc row 1 0 row) (row - 1)), .null, .int 0, .int (nI (row - 1))]) dX6_leastNotReached_61 (by decide) rfl ?_
          have LV : ∀ j, j ≤ K row → E YX6_leastNotReached d 63 [.ref 0, .int (nI row), .long (rcF row), .null, .int (nI j), .int (nI (row - 1))] [] (hov hp [(0, .inr (6, [.ref 1, .ref 5, .ref 7, .ref 10, .ref 18, .ref 26, .ref 31, .ref 35, .ref 37, .int (nI rk)])), (37, .inl (false, 61, rv))]) (fun v h' => v = some (.int (nI (K row))) ∧ h' = hov hp [(0, .inr (6, [.ref 1, .ref 5, .ref 7, .ref 10, .ref 18, .ref 26, .ref 31, .ref 35, .ref 37, .int (nI rk)])), (37, .inl (false, 61, rv))]) := by
            refine down (K row) ?_ ?_
            · refine E_iload dX6_leastNotReached_63 rfl ?_
              refine E_bipush (v := 63) dX6_leastNotReached_65 (by decide) ?_
              refine E_icmp_ge (tgt := 87) dX6_leastNotReached_67 (by decide) (fun c => absurd c (cI_nle (n := 63) rfl (by omega) (by decide))) (fun _ => ?_)
              refine E_lload_n dX6_leastNotReached_70 rfl ?_
              refine E_iload dX6_leastNotReached_71 rfl ?_
              refine E_lshr dX6_leastNotReached_73 ?_
              refine E_lconst (v := 1) dX6_leastNotReached_74 (by decide) ?_
              refine E_land dX6_leastNotReached_75 ?_
              refine E_lconst (v := 0) dX6_leastNotReached_76 (by decide) ?_
              refine E_lcmp dX6_leastNotReached_77 ?_
              refine E_if_eq (tgt := 87) dX6_leastNotReached_78 (by decide) (fun _ => ?_) (fun c => absurd ((lg_cmp_eq _ _).mpr (of_decide_eq_true hz.2.1)) c)
              refine E_iload dX6_leastNotReached_87 rfl ?_
              exact E_iretf dX6_leastNotReached_89 rfl rfl rfl rfl
            · intro j hj ihj
              refine E_iload dX6_leastNotReached_63 rfl ?_
              refine E_bipush (v := 63) dX6_leastNotReached_65 (by decide) ?_
              refine E_icmp_ge (tgt := 87) dX6_leastNotReached_67 (by decide) (fun c => absurd c (cI_nle (n := 63) rfl (by omega) (by decide))) (fun _ => ?_)
              refine E_lload_n dX6_leastNotReached_70 rfl ?_
              refine E_iload dX6_leastNotReached_71 rfl ?_
              refine E_lshr dX6_leastNotReached_73 ?_
              refine E_lconst (v := 1) dX6_leastNotReached_74 (by decide) ?_
              refine E_land dX6_leastNotReached_75 ?_
              refine E_lconst (v := 0) dX6_leastNotReached_76 (by decide) ?_
              refine E_lcmp dX6_leastNotReached_77 ?_
              refine E_if_eq (tgt := 87) dX6_leastNotReached_78 (by decide) (fun c => absurd ((lg_cmp_eq _ _).mp c) (of_decide_eq_false (hz.1 j hj))) (fun _ => ?_)
              refine E_iinc (y := nI (j + 1)) (l2 := [.ref 0, .int (nI row), .long (rcF row), .null, .int (nI (j + 1)), .int (nI (row - 1))]) dX6_leastNotReached_81 rfl (nI_1 _) (by decide) rfl ?_
              refine E_goto (tgt := 63) dX6_leastNotReached_84 (by decide) ?_
              exact ihj
          exact LV 0 (by omega)
        · intro i hi ih
          refine E_iload dX6_leastNotReached_14 rfl ?_
          refine E_iload dX6_leastNotReached_16 rfl ?_
          refine E_iadd dX6_leastNotReached_18 ?_
          refine E_eqi (y := nI (i + 2)) (nI_add _ 2) ?_
          refine E_iload_n dX6_leastNotReached_19 rfl ?_
          refine E_icmp_gt (tgt := 54) dX6_leastNotReached_20 (by decide) (fun c => absurd c (nI_nlt (by omega) (by omega))) (fun _ => ?_)
          refine E_lload_n dX6_leastNotReached_23 rfl ?_
          refine E_lconst (v := 1) dX6_leastNotReached_24 (by decide) ?_
          refine E_aload_n dX6_leastNotReached_25 rfl ?_
          refine E_get dX6_leastNotReached_26 fX6_58 (by decide) rfl rfl ?_
          refine E_iload dX6_leastNotReached_29 rfl ?_
          refine E_ialdN (j := i) dX6_leastNotReached_31 (by decide) rfl (by omega) (by decide) ?_
          refine E_eqi (y := nI (K i)) (hrv _ (by omega)) ?_
          refine E_aload_n dX6_leastNotReached_32 rfl ?_
          refine E_get dX6_leastNotReached_33 fX6_58 (by decide) rfl rfl ?_
          refine E_iload_n dX6_leastNotReached_36 rfl ?_
          refine E_iload dX6_leastNotReached_37 rfl ?_
          refine E_isub dX6_leastNotReached_39 ?_
          refine E_eqi (y := nI (row - 2)) (pk_sub (a := row) (b := 2) (by omega)) ?_
          refine E_iload dX6_leastNotReached_40 rfl ?_
          refine E_isub dX6_leastNotReached_42 ?_
          refine E_eqi (y := nI (row - 2 - i)) (pk_sub (by omega)) ?_
          refine E_ialdN (j := row - 2 - i) dX6_leastNotReached_43 (by decide) rfl (by omega) (by decide) ?_
          refine E_eqi (y := nI (K (row - 2 - i))) (hrv _ (by omega)) ?_
          refine E_ixor dX6_leastNotReached_44 ?_
          refine E_eqi (y := xr row 2 i) rfl ?_
          refine E_lshl dX6_leastNotReached_45 ?_
          refine E_lor dX6_leastNotReached_46 ?_
          refine E_eql (y := (rc row 2 (rc row 1 0 row) i) ||| (1 <<< ((xr row 2 i : Int32).toInt64 &&& 63))) rfl ?_
          refine E_lstore_n (l2 := [.ref 0, .int (nI row), .long ((rc row 2 (rc row 1 0 row) i) ||| (1 <<< ((xr row 2 i : Int32).toInt64 &&& 63))), .null, .int 2, .int (nI i)]) dX6_leastNotReached_47 rfl (by decide) rfl ?_
          refine E_iinc (y := nI (i + 1)) (l2 := [.ref 0, .int (nI row), .long ((rc row 2 (rc row 1 0 row) i) ||| (1 <<< ((xr row 2 i : Int32).toInt64 &&& 63))), .null, .int 2, .int (nI (i + 1))]) dX6_leastNotReached_48 rfl (nI_1 _) (by decide) rfl ?_
          refine E_goto (tgt := 14) dX6_leastNotReached_51 (by decide) ?_
          exact ih
      exact L2 0 (by omega)
    · intro i hi ih
      refine E_iload dX6_leastNotReached_14 rfl ?_
      refine E_iload dX6_leastNotReached_16 rfl ?_
      refine E_iadd dX6_leastNotReached_18 ?_
      refine E_eqi (y := nI (i + 1)) (nI_1 _) ?_
      refine E_iload_n dX6_leastNotReached_19 rfl ?_
      refine E_icmp_gt (tgt := 54) dX6_leastNotReached_20 (by decide) (fun c => absurd c (nI_nlt (by omega) (by omega))) (fun _ => ?_)
      refine E_lload_n dX6_leastNotReached_23 rfl ?_
      refine E_lconst (v := 1) dX6_leastNotReached_24 (by decide) ?_
      refine E_aload_n dX6_leastNotReached_25 rfl ?_
      refine E_get dX6_leastNotReached_26 fX6_58 (by decide) rfl rfl ?_
      refine E_iload dX6_leastNotReached_29 rfl ?_
      refine E_ialdN (j := i) dX6_leastNotReached_31 (by decide) rfl (by omega) (by decide) ?_
      refine E_eqi (y := nI (K i)) (hrv _ (by omega)) ?_
      refine E_aload_n dX6_leastNotReached_32 rfl ?_
      refine E_get dX6_leastNotReached_33 fX6_58 (by decide) rfl rfl ?_
      refine E_iload_n dX6_leastNotReached_36 rfl ?_
      refine E_iload dX6_leastNotReached_37 rfl ?_
      refine E_isub dX6_leastNotReached_39 ?_
      refine E_eqi (y := nI (row - 1)) (pk_sub (a := row) (b := 1) (by omega)) ?_
      refine E_iload dX6_leastNotReached_40 rfl ?_
      refine E_isub dX6_leastNotReached_42 ?_
      refine E_eqi (y := nI (row - 1 - i)) (pk_sub (by omega)) ?_
      refine E_ialdN (j := row - 1 - i) dX6_leastNotReached_43 (by decide) rfl (by omega) (by decide) ?_
      refine E_eqi (y := nI (K (row - 1 - i))) (hrv _ (by omega)) ?_
      refine E_ixor dX6_leastNotReached_44 ?_
      refine E_eqi (y := xr row 1 i) rfl ?_
      refine E_lshl dX6_leastNotReached_45 ?_
      refine E_lor dX6_leastNotReached_46 ?_
      refine E_eql (y := (rc row 1 0 i) ||| (1 <<< ((xr row 1 i : Int32).toInt64 &&& 63))) rfl ?_
      refine E_lstore_n (l2 := [.ref 0, .int (nI row), .long ((rc row 1 0 i) ||| (1 <<< ((xr row 1 i : Int32).toInt64 &&& 63))), .null, .int 1, .int (nI i)]) dX6_leastNotReached_47 rfl (by decide) rfl ?_
      refine E_iinc (y := nI (i + 1)) (l2 := [.ref 0, .int (nI row), .long ((rc row 1 0 i) ||| (1 <<< ((xr row 1 i : Int32).toInt64 &&& 63))), .null, .int 1, .int (nI (i + 1))]) dX6_leastNotReached_48 rfl (nI_1 _) (by decide) rfl ?_
      refine E_goto (tgt := 14) dX6_leastNotReached_51 (by decide) ?_
      exact ih
  exact L1 0 (by omega)

set_option maxHeartbeats 4000000 in
set_option maxRecDepth 20000 in
theorem c_learn (d : Nat) (rk : Nat) (rv : Nat → Int32) (hk1 : 1 ≤ rk) (hk2 : rk ≤ 61) (hrv : ∀ i, i < rk → rv i = nI (K i)) (n : Nat) (hn : n ≤ 60) : FC YX6_learnRowValues (d + 1) [.ref 0, .int (nI n), .null] [(0, .inr (6, [.ref 1, .ref 5, .ref 7, .ref 10, .ref 18, .ref 26, .ref 31, .ref 35, .ref 37, .int (nI rk)])), (37, .inl (false, 61, rv))] (none) [(0, .inr (6, [.ref 1, .ref 5, .ref 7, .ref 10, .ref 18, .ref 26, .ref 31, .ref 35, .ref 37, .int (nI (max rk (n + 1)))])), (37, .inl (false, 61, (rvK rv rk (max rk (n + 1)))))] := by
  intro hp
  refine E_aload_n dX6_learnRowValues_0 rfl ?_
  refine E_get dX6_learnRowValues_1 fX6_61 (by decide) rfl rfl ?_
  refine E_istore_n (l2 := [.ref 0, .int (nI n), .int (nI rk)]) dX6_learnRowValues_4 rfl (by decide) rfl ?_
  have L : ∀ i, i ≤ n + 1 - rk → E YX6_learnRowValues (d + 1) 5 [.ref 0, .int (nI n), .int (nI (rk + i))] [] (hov hp [(0, .inr (6, [.ref 1, .ref 5, .ref 7, .ref 10, .ref 18, .ref 26, .ref 31, .ref 35, .ref 37, .int (nI (rk + i))])), (37, .inl (false, 61, (rvK rv rk (rk + i))))]) (fun v h' => v = none ∧ h' = hov hp [(0, .inr (6, [.ref 1, .ref 5, .ref 7, .ref 10, .ref 18, .ref 26, .ref 31, .ref 35, .ref 37, .int (nI (max rk (n + 1)))])), (37, .inl (false, 61, (rvK rv rk (max rk (n + 1)))))]) := by
    refine down (n + 1 - rk) ?_ ?_
    · refine E_iload_n dX6_learnRowValues_5 rfl ?_
      refine E_iload_n dX6_learnRowValues_6 rfl ?_
      refine E_icmp_gt (tgt := 34) dX6_learnRowValues_7 (by decide) (fun _ => ?_) (fun c => absurd (nI_lt (by omega) (by omega)) c)
      exact E_vretf dX6_learnRowValues_34 rfl (by rw [show rk + (n + 1 - rk) = max rk (n + 1) by omega])
    · intro i hi ih
      refine E_iload_n dX6_learnRowValues_5 rfl ?_
      refine E_iload_n dX6_learnRowValues_6 rfl ?_
      refine E_icmp_gt (tgt := 34) dX6_learnRowValues_7 (by decide) (fun c => absurd c (nI_nlt (by omega) (by omega))) (fun _ => ?_)
      refine E_aload_n dX6_learnRowValues_10 rfl ?_
      refine E_get dX6_learnRowValues_11 fX6_58 (by decide) rfl rfl ?_
      refine E_iload_n dX6_learnRowValues_14 rfl ?_
      refine E_aload_n dX6_learnRowValues_15 rfl ?_
      refine E_iload_n dX6_learnRowValues_16 rfl ?_
      refine E_callV (As := [.int (nI (rk + i))]) (l' := [.ref 0, .int (nI (rk + i)), .null, .null, .null, .null]) (st := [.int (nI (rk + i)), .ref 37]) dX6_learnRowValues_17 kX6_235 iX6_leastNotReached vX6_leastNotReached (by decide) rfl rfl MX6_leastNotReached rfl rfl (Nat.le_of_ble_eq_true rfl) (FC.use (c_lnr d (rk + i) (rvK rv rk (rk + i)) (rk + i) (by omega) (by omega) (fun k hk => rvK_g hrv hk)) rfl (L2 := [(0, .inr (6, [.ref 1, .ref 5, .ref 7, .ref 10, .ref 18, .ref 26, .ref 31, .ref 35, .ref 37, .int (nI (rk + i))])), (37, .inl (false, 61, (rvK rv rk (rk + i))))]) rfl) (Nat.le_of_ble_eq_true rfl) (fun _ _ hq9 => E_fgo ?_ hq9)
      show E _ _ 20 [.ref 0, .int (nI n), .int (nI (rk + i))] [.int (nI (K (rk + i))), .int (nI (rk + i)), .ref 37] (hov hp [(0, .inr (6, [.ref 1, .ref 5, .ref 7, .ref 10, .ref 18, .ref 26, .ref 31, .ref 35, .ref 37, .int (nI (rk + i))])), (37, .inl (false, 61, (rvK rv rk (rk + i))))]) _
      refine E_iastN (j := rk + i) (f2 := rvK rv rk (rk + i + 1)) (L2 := [(0, .inr (6, [.ref 1, .ref 5, .ref 7, .ref 10, .ref 18, .ref 26, .ref 31, .ref 35, .ref 37, .int (nI (rk + i))])), (37, .inl (false, 61, (rvK rv rk (rk + i + 1))))]) dX6_learnRowValues_20 (by decide) rfl (by omega) (by decide) (rvK_s (by omega)) rfl ?_
      refine E_aload_n dX6_learnRowValues_21 rfl ?_
      refine E_iload_n dX6_learnRowValues_22 rfl ?_
      refine E_iconst (v := 1) dX6_learnRowValues_23 (by decide) ?_
      refine E_iadd dX6_learnRowValues_24 ?_
      refine E_eqi (y := nI (rk + i + 1)) (nI_1 _) ?_
      refine E_puti (fs2 := [.ref 1, .ref 5, .ref 7, .ref 10, .ref 18, .ref 26, .ref 31, .ref 35, .ref 37, .int (nI (rk + i + 1))]) (L2 := [(0, .inr (6, [.ref 1, .ref 5, .ref 7, .ref 10, .ref 18, .ref 26, .ref 31, .ref 35, .ref 37, .int (nI (rk + i + 1))])), (37, .inl (false, 61, (rvK rv rk (rk + i + 1))))]) dX6_learnRowValues_25 fX6_61 fpX6_9 (by decide) rfl (Nat.le_of_ble_eq_true rfl) rfl rfl ?_
      refine E_iinc (y := nI (rk + i + 1)) (l2 := [.ref 0, .int (nI n), .int (nI (rk + i + 1))]) dX6_learnRowValues_28 rfl (nI_1 _) (by decide) rfl ?_
      refine E_goto (tgt := 5) dX6_learnRowValues_31 (by decide) ?_
      exact ih
  have e0 := L 0 (by omega)
  simp only [Nat.add_zero, rvK_0] at e0
  exact e0

set_option maxHeartbeats 4000000 in
set_option maxRecDepth 20000 in
theorem c_wt (d : Nat) (rk : Nat) (rv : Nat → Int32) (n : Nat) (hn : n ≤ 60) (hrv : ∀ i, i < n → rv i = nI (K i)) : FC YX6_winningTake d [.ref 0, .int (nI n), .null, .null] [(0, .inr (6, [.ref 1, .ref 5, .ref 7, .ref 10, .ref 18, .ref 26, .ref 31, .ref 35, .ref 37, .int (nI rk)])), (37, .inl (false, 61, rv))] (some (.int (wtR n))) [(0, .inr (6, [.ref 1, .ref 5, .ref 7, .ref 10, .ref 18, .ref 26, .ref 31, .ref 35, .ref 37, .int (nI rk)])), (37, .inl (false, 61, rv))] := by
  intro hp
  refine E_iconst (v := 1) dX6_winningTake_0 (by decide) ?_
  refine E_istore_n (l2 := [.ref 0, .int (nI n), .int 1, .null]) dX6_winningTake_1 rfl (by decide) rfl ?_
  refine E_iload_n dX6_winningTake_2 rfl ?_
  refine E_iconst (v := 2) dX6_winningTake_3 (by decide) ?_
  refine E_icmp_gt (tgt := 54) dX6_winningTake_4 (by decide) (fun c => by first | exact absurd c (by decide) | exact absurd (by decide) c) (fun _ => ?_)
  refine E_iconst (v := 0) dX6_winningTake_7 (by decide) ?_
  refine E_istore_n (l2 := [.ref 0, .int (nI n), .int 1, .int 0]) dX6_winningTake_8 rfl (by decide) rfl ?_
  have L1 : ∀ k i, i + k = n → wtF n 1 (wtF n 2 (-6) (n - 1) 0) k i = wtR n → E YX6_winningTake d 9 [.ref 0, .int (nI n), .int 1, .int (nI i)] [] (hov hp [(0, .inr (6, [.ref 1, .ref 5, .ref 7, .ref 10, .ref 18, .ref 26, .ref 31, .ref 35, .ref 37, .int (nI rk)])), (37, .inl (false, 61, rv))]) (fun v h' => v = some (.int (wtR n)) ∧ h' = hov hp [(0, .inr (6, [.ref 1, .ref 5, .ref 7, .ref 10, .ref 18, .ref 26, .ref 31, .ref 35, .ref 37, .int (nI rk)])), (37, .inl (false, 61, rv))]) := by
    intro k
    induction k with
    | zero =>
      intro i hik he
      refine E_iload_n dX6_winningTake_9 rfl ?_
      refine E_iload_n dX6_winningTake_10 rfl ?_
      refine E_iadd dX6_winningTake_11 ?_
      refine E_eqi (y := nI (i + 1)) (nI_1 _) ?_
      refine E_iload_n dX6_winningTake_12 rfl ?_
      refine E_icmp_gt (tgt := 48) dX6_winningTake_13 (by decide) (fun _ => ?_) (fun c => absurd (nI_lt (by omega) (by omega)) c)
      refine E_iinc (y := 2) (l2 := [.ref 0, .int (nI n), .int 2, .int (nI i)]) dX6_winningTake_48 rfl (by decide) (by decide) rfl ?_
      refine E_goto (tgt := 2) dX6_winningTake_51 (by decide) ?_
      refine E_iload_n dX6_winningTake_2 rfl ?_
      refine E_iconst (v := 2) dX6_winningTake_3 (by decide) ?_
      refine E_icmp_gt (tgt := 54) dX6_winningTake_4 (by decide) (fun c => by first | exact absurd c (by decide) | exact absurd (by decide) c) (fun _ => ?_)
      refine E_iconst (v := 0) dX6_winningTake_7 (by decide) ?_
      refine E_istore_n (l2 := [.ref 0, .int (nI n), .int 2, .int 0]) dX6_winningTake_8 rfl (by decide) rfl ?_
      have L2 : ∀ k i, i + k = n - 1 → wtF n 2 (-6) k i = wtR n → E YX6_winningTake d 9 [.ref 0, .int (nI n), .int 2, .int (nI i)] [] (hov hp [(0, .inr (6, [.ref 1, .ref 5, .ref 7, .ref 10, .ref 18, .ref 26, .ref 31, .ref 35, .ref 37, .int (nI rk)])), (37, .inl (false, 61, rv))]) (fun v h' => v = some (.int (wtR n)) ∧ h' = hov hp [(0, .inr (6, [.ref 1, .ref 5, .ref 7, .ref 10, .ref 18, .ref 26, .ref 31, .ref 35, .ref 37, .int (nI rk)])), (37, .inl (false, 61, rv))]) := by
        intro k
        induction k with
        | zero =>
          intro i hik he
          refine E_iload_n dX6_winningTake_9 rfl ?_
          refine E_iload_n dX6_winningTake_10 rfl ?_
          refine E_iadd dX6_winningTake_11 ?_
          refine E_eqi (y := nI (i + 2)) (nI_add _ 2) ?_
          refine E_iload_n dX6_winningTake_12 rfl ?_
          refine E_icmp_gt (tgt := 48) dX6_winningTake_13 (by decide) (fun _ => ?_) (fun c => absurd (nI_lt (by omega) (by omega)) c)
          refine E_iinc (y := 3) (l2 := [.ref 0, .int (nI n), .int 3, .int (nI i)]) dX6_winningTake_48 rfl (by decide) (by decide) rfl ?_
          refine E_goto (tgt := 2) dX6_winningTake_51 (by decide) ?_
          refine E_iload_n dX6_winningTake_2 rfl ?_
          refine E_iconst (v := 2) dX6_winningTake_3 (by decide) ?_
          refine E_icmp_gt (tgt := 54) dX6_winningTake_4 (by decide) (fun _ => ?_) (fun c => by first | exact absurd c (by decide) | exact absurd (by decide) c)
          refine E_bipush (v := (-6)) dX6_winningTake_54 (by decide) ?_
          exact E_iretf dX6_winningTake_56 rfl rfl he rfl
        | succ k ih =>
          intro i hik he
          refine E_iload_n dX6_winningTake_9 rfl ?_
          refine E_iload_n dX6_winningTake_10 rfl ?_
          refine E_iadd dX6_winningTake_11 ?_
          refine E_eqi (y := nI (i + 2)) (nI_add _ 2) ?_
          refine E_iload_n dX6_winningTake_12 rfl ?_
          refine E_icmp_gt (tgt := 48) dX6_winningTake_13 (by decide) (fun c => absurd c (nI_nlt (by omega) (by omega))) (fun _ => ?_)
          refine E_aload_n dX6_winningTake_16 rfl ?_
          refine E_get dX6_winningTake_17 fX6_58 (by decide) rfl rfl ?_
          refine E_iload_n dX6_winningTake_20 rfl ?_
          refine E_ialdN (j := i) dX6_winningTake_21 (by decide) rfl (by omega) (by decide) ?_
          refine E_eqi (y := nI (K i)) (hrv _ (by omega)) ?_
          refine E_aload_n dX6_winningTake_22 rfl ?_
          refine E_get dX6_winningTake_23 fX6_58 (by decide) rfl rfl ?_
          refine E_iload_n dX6_winningTake_26 rfl ?_
          refine E_iload_n dX6_winningTake_27 rfl ?_
          refine E_isub dX6_winningTake_28 ?_
          refine E_eqi (y := nI (n - 2)) (pk_sub (a := n) (b := 2) (by omega)) ?_
          refine E_iload_n dX6_winningTake_29 rfl ?_
          refine E_isub dX6_winningTake_30 ?_
          refine E_eqi (y := nI (n - 2 - i)) (pk_sub (by omega)) ?_
          refine E_ialdN (j := n - 2 - i) dX6_winningTake_31 (by decide) rfl (by omega) (by decide) ?_
          refine E_eqi (y := nI (K (n - 2 - i))) (hrv _ (by omega)) ?_
          refine E_icmp_ne (tgt := 42) dX6_winningTake_32 (by decide) (fun c32 => ?_) (fun c32 => ?_)
          · have c32 : ¬ K i = K (n - 2 - i) := fun h => c32 (by rw [h])
            refine E_iinc (y := nI (i + 1)) (l2 := [.ref 0, .int (nI n), .int 2, .int (nI (i + 1))]) dX6_winningTake_42 rfl (nI_1 _) (by decide) rfl ?_
            refine E_goto (tgt := 9) dX6_winningTake_45 (by decide) ?_
            exact ih (i + 1) (by omega) (by rw [← he, wtF, if_neg c32])
          · have c32 : K i = K (n - 2 - i) := nI_inj (by have := K_lt i (by omega); omega) (by have := K_lt (n - 2 - i) (by omega); omega) c32
            refine E_bipush (v := 100) dX6_winningTake_35 (by decide) ?_
            refine E_iload_n dX6_winningTake_37 rfl ?_
            refine E_imul dX6_winningTake_38 ?_
            refine E_eqi (y := 200) (by decide) ?_
            refine E_iload_n dX6_winningTake_39 rfl ?_
            refine E_iadd dX6_winningTake_40 ?_
            refine E_eqi (y := nI (100 * 2 + i)) (nI_add 200 i) ?_
            exact E_iretf dX6_winningTake_41 rfl rfl (by rw [← he, wtF, if_pos c32]) rfl
      exact L2 (n - 1) 0 (by omega) (by exact he)
    | succ k ih =>
      intro i hik he
      refine E_iload_n dX6_winningTake_9 rfl ?_
      refine E_iload_n dX6_winningTake_10 rfl ?_
      refine E_iadd dX6_winningTake_11 ?_
      refine E_eqi (y := nI (i + 1)) (nI_1 _) ?_
      refine E_iload_n dX6_winningTake_12 rfl ?_
      refine E_icmp_gt (tgt := 48) dX6_winningTake_13 (by decide) (fun c => absurd c (nI_nlt (by omega) (by omega))) (fun _ => ?_)
      refine E_aload_n dX6_winningTake_16 rfl ?_
      refine E_get dX6_winningTake_17 fX6_58 (by decide) rfl rfl ?_
      refine E_iload_n dX6_winningTake_20 rfl ?_
      refine E_ialdN (j := i) dX6_winningTake_21 (by decide) rfl (by omega) (by decide) ?_
      refine E_eqi (y := nI (K i)) (hrv _ (by omega)) ?_
      refine E_aload_n dX6_winningTake_22 rfl ?_
      refine E_get dX6_winningTake_23 fX6_58 (by decide) rfl rfl ?_
      refine E_iload_n dX6_winningTake_26 rfl ?_
      refine E_iload_n dX6_winningTake_27 rfl ?_
      refine E_isub dX6_winningTake_28 ?_
      refine E_eqi (y := nI (n - 1)) (pk_sub (a := n) (b := 1) (by omega)) ?_
      refine E_iload_n dX6_winningTake_29 rfl ?_
      refine E_isub dX6_winningTake_30 ?_
      refine E_eqi (y := nI (n - 1 - i)) (pk_sub (by omega)) ?_
      refine E_ialdN (j := n - 1 - i) dX6_winningTake_31 (by decide) rfl (by omega) (by decide) ?_
      refine E_eqi (y := nI (K (n - 1 - i))) (hrv _ (by omega)) ?_
      refine E_icmp_ne (tgt := 42) dX6_winningTake_32 (by decide) (fun c32 => ?_) (fun c32 => ?_)
      · have c32 : ¬ K i = K (n - 1 - i) := fun h => c32 (by rw [h])
        refine E_iinc (y := nI (i + 1)) (l2 := [.ref 0, .int (nI n), .int 1, .int (nI (i + 1))]) dX6_winningTake_42 rfl (nI_1 _) (by decide) rfl ?_
        refine E_goto (tgt := 9) dX6_winningTake_45 (by decide) ?_
        exact ih (i + 1) (by omega) (by rw [← he, wtF, if_neg c32])
      · have c32 : K i = K (n - 1 - i) := nI_inj (by have := K_lt i (by omega); omega) (by have := K_lt (n - 1 - i) (by omega); omega) c32
        refine E_bipush (v := 100) dX6_winningTake_35 (by decide) ?_
        refine E_iload_n dX6_winningTake_37 rfl ?_
        refine E_imul dX6_winningTake_38 ?_
        refine E_eqi (y := 100) (by decide) ?_
        refine E_iload_n dX6_winningTake_39 rfl ?_
        refine E_iadd dX6_winningTake_40 ?_
        refine E_eqi (y := nI (100 * 1 + i)) (nI_add 100 i) ?_
        exact E_iretf dX6_winningTake_41 rfl rfl (by rw [← he, wtF, if_pos c32]) rfl
  exact L1 (n) 0 (by omega) (by rfl)

set_option maxHeartbeats 4000000 in
set_option maxRecDepth 20000 in
theorem t_tak_o1 (d : Nat) (rk : Nat) (x y : Int32) (h1 : inL (Int32.toInt64 x) 0 60 = false) : FC YX6_takes (d + 2) [.ref 0, .int x, .int y, .null] [(0, .inr (6, [.ref 1, .ref 5, .ref 7, .ref 10, .ref 18, .ref 26, .ref 31, .ref 35, .ref 37, .int (nI rk)]))] (some (.int (-2))) [(0, .inr (6, [.ref 1, .ref 5, .ref 7, .ref 10, .ref 18, .ref 26, .ref 31, .ref 35, .ref 37, .int (nI rk)]))] := by
  intro hp
  refine E_iload_n dX6_takes_0 rfl ?_
  refine E_i2l dX6_takes_1 ?_
  refine E_lconst (v := 0) dX6_takes_2 (by decide) ?_
  refine E_ldc2 dX6_takes_3 qX6_226 ?_
  refine E_callS (As := [.long (Int32.toInt64 x), .long 0, .long 60]) (l' := [.long (Int32.toInt64 x), .null, .long 0, .null, .long 60, .null]) (st := []) dX6_takes_6 kX6_73 sX6_isIn MX6_isIn rfl rfl (Nat.le_of_ble_eq_true rfl) (FC.use (c_isIn (d + 1) _ _ _) rfl (L2 := [(0, .inr (6, [.ref 1, .ref 5, .ref 7, .ref 10, .ref 18, .ref 26, .ref 31, .ref 35, .ref 37, .int (nI rk)]))]) rfl) (Nat.le_of_ble_eq_true rfl) (fun _ _ hq9 => E_fgo ?_ hq9)
  show E _ _ 9 [.ref 0, .int x, .int y, .null] [.int (b2i (inL (Int32.toInt64 x) 0 60))] (hov hp [(0, .inr (6, [.ref 1, .ref 5, .ref 7, .ref 10, .ref 18, .ref 26, .ref 31, .ref 35, .ref 37, .int (nI rk)]))]) _
  refine E_if_eq (tgt := 22) dX6_takes_9 (by decide) (fun _ => ?_) (fun c => (b2i_x0 h1 c).elim)
  refine E_bipush (v := (-2)) dX6_takes_22 (by decide) ?_
  exact E_iretf dX6_takes_24 rfl rfl rfl rfl

set_option maxHeartbeats 4000000 in
set_option maxRecDepth 20000 in
theorem t_tak_o2 (d : Nat) (rk : Nat) (x y : Int32) (h1 : inL (Int32.toInt64 x) 0 60 = true) (h2 : inL (Int32.toInt64 y) 0 1 = false) : FC YX6_takes (d + 2) [.ref 0, .int x, .int y, .null] [(0, .inr (6, [.ref 1, .ref 5, .ref 7, .ref 10, .ref 18, .ref 26, .ref 31, .ref 35, .ref 37, .int (nI rk)]))] (some (.int (-2))) [(0, .inr (6, [.ref 1, .ref 5, .ref 7, .ref 10, .ref 18, .ref 26, .ref 31, .ref 35, .ref 37, .int (nI rk)]))] := by
  intro hp
  refine E_iload_n dX6_takes_0 rfl ?_
  refine E_i2l dX6_takes_1 ?_
  refine E_lconst (v := 0) dX6_takes_2 (by decide) ?_
  refine E_ldc2 dX6_takes_3 qX6_226 ?_
  refine E_callS (As := [.long (Int32.toInt64 x), .long 0, .long 60]) (l' := [.long (Int32.toInt64 x), .null, .long 0, .null, .long 60, .null]) (st := []) dX6_takes_6 kX6_73 sX6_isIn MX6_isIn rfl rfl (Nat.le_of_ble_eq_true rfl) (FC.use (c_isIn (d + 1) _ _ _) rfl (L2 := [(0, .inr (6, [.ref 1, .ref 5, .ref 7, .ref 10, .ref 18, .ref 26, .ref 31, .ref 35, .ref 37, .int (nI rk)]))]) rfl) (Nat.le_of_ble_eq_true rfl) (fun _ _ hq9 => E_fgo ?_ hq9)
  show E _ _ 9 [.ref 0, .int x, .int y, .null] [.int (b2i (inL (Int32.toInt64 x) 0 60))] (hov hp [(0, .inr (6, [.ref 1, .ref 5, .ref 7, .ref 10, .ref 18, .ref 26, .ref 31, .ref 35, .ref 37, .int (nI rk)]))]) _
  refine E_if_eq (tgt := 22) dX6_takes_9 (by decide) (fun c => (b2i_x1 h1 c).elim) (fun _ => ?_)
  refine E_iload_n dX6_takes_12 rfl ?_
  refine E_i2l dX6_takes_13 ?_
  refine E_lconst (v := 0) dX6_takes_14 (by decide) ?_
  refine E_lconst (v := 1) dX6_takes_15 (by decide) ?_
  refine E_callS (As := [.long (Int32.toInt64 y), .long 0, .long 1]) (l' := [.long (Int32.toInt64 y), .null, .long 0, .null, .long 1, .null]) (st := []) dX6_takes_16 kX6_73 sX6_isIn MX6_isIn rfl rfl (Nat.le_of_ble_eq_true rfl) (FC.use (c_isIn (d + 1) _ _ _) rfl (L2 := [(0, .inr (6, [.ref 1, .ref 5, .ref 7, .ref 10, .ref 18, .ref 26, .ref 31, .ref 35, .ref 37, .int (nI rk)]))]) rfl) (Nat.le_of_ble_eq_true rfl) (fun _ _ hq9 => E_fgo ?_ hq9)
  show E _ _ 19 [.ref 0, .int x, .int y, .null] [.int (b2i (inL (Int32.toInt64 y) 0 1))] (hov hp [(0, .inr (6, [.ref 1, .ref 5, .ref 7, .ref 10, .ref 18, .ref 26, .ref 31, .ref 35, .ref 37, .int (nI rk)]))]) _
  refine E_if_ne (tgt := 25) dX6_takes_19 (by decide) (fun c => (b2i_x0 h2 c).elim) (fun _ => ?_)
  refine E_bipush (v := (-2)) dX6_takes_22 (by decide) ?_
  exact E_iretf dX6_takes_24 rfl rfl rfl rfl

set_option maxHeartbeats 4000000 in
set_option maxRecDepth 20000 in
theorem t_tak_1 (d : Nat) (rk : Nat) (rv : Nat → Int32) (hk1 : 1 ≤ rk) (hk2 : rk ≤ 61) (hrv : ∀ i, i < rk → rv i = nI (K i)) (n : Nat) (hn : n ≤ 60) (h1 : inL (Int32.toInt64 (nI n)) 0 60 = true) : FC YX6_takes (d + 2) [.ref 0, .int (nI n), .int 1, .null] [(0, .inr (6, [.ref 1, .ref 5, .ref 7, .ref 10, .ref 18, .ref 26, .ref 31, .ref 35, .ref 37, .int (nI rk)])), (37, .inl (false, 61, rv))] (some (.int (wtR n))) [(0, .inr (6, [.ref 1, .ref 5, .ref 7, .ref 10, .ref 18, .ref 26, .ref 31, .ref 35, .ref 37, .int (nI (max rk (n + 1)))])), (37, .inl (false, 61, (rvK rv rk (max rk (n + 1)))))] := by
  intro hp
  refine E_iload_n dX6_takes_0 rfl ?_
  refine E_i2l dX6_takes_1 ?_
  refine E_lconst (v := 0) dX6_takes_2 (by decide) ?_
  refine E_ldc2 dX6_takes_3 qX6_226 ?_
  refine E_callS (As := [.long (Int32.toInt64 (nI n)), .long 0, .long 60]) (l' := [.long (Int32.toInt64 (nI n)), .null, .long 0, .null, .long 60, .null]) (st := []) dX6_takes_6 kX6_73 sX6_isIn MX6_isIn rfl rfl (Nat.le_of_ble_eq_true rfl) (FC.use (c_isIn (d + 1) _ _ _) rfl (L2 := [(0, .inr (6, [.ref 1, .ref 5, .ref 7, .ref 10, .ref 18, .ref 26, .ref 31, .ref 35, .ref 37, .int (nI rk)])), (37, .inl (false, 61, rv))]) rfl) (Nat.le_of_ble_eq_true rfl) (fun _ _ hq9 => E_fgo ?_ hq9)
  show E _ _ 9 [.ref 0, .int (nI n), .int 1, .null] [.int (b2i (inL (Int32.toInt64 (nI n)) 0 60))] (hov hp [(0, .inr (6, [.ref 1, .ref 5, .ref 7, .ref 10, .ref 18, .ref 26, .ref 31, .ref 35, .ref 37, .int (nI rk)])), (37, .inl (false, 61, rv))]) _
  refine E_if_eq (tgt := 22) dX6_takes_9 (by decide) (fun c => (b2i_x1 h1 c).elim) (fun _ => ?_)
  refine E_iload_n dX6_takes_12 rfl ?_
  refine E_i2l dX6_takes_13 ?_
  refine E_lconst (v := 0) dX6_takes_14 (by decide) ?_
  refine E_lconst (v := 1) dX6_takes_15 (by decide) ?_
  refine E_callS (As := [.long (Int32.toInt64 1), .long 0, .long 1]) (l' := [.long (Int32.toInt64 1), .null, .long 0, .null, .long 1, .null]) (st := []) dX6_takes_16 kX6_73 sX6_isIn MX6_isIn rfl rfl (Nat.le_of_ble_eq_true rfl) (FC.use (c_isIn (d + 1) _ _ _) rfl (L2 := [(0, .inr (6, [.ref 1, .ref 5, .ref 7, .ref 10, .ref 18, .ref 26, .ref 31, .ref 35, .ref 37, .int (nI rk)])), (37, .inl (false, 61, rv))]) rfl) (Nat.le_of_ble_eq_true rfl) (fun _ _ hq9 => E_fgo ?_ hq9)
  show E _ _ 19 [.ref 0, .int (nI n), .int 1, .null] [.int (b2i (inL (Int32.toInt64 1) 0 1))] (hov hp [(0, .inr (6, [.ref 1, .ref 5, .ref 7, .ref 10, .ref 18, .ref 26, .ref 31, .ref 35, .ref 37, .int (nI rk)])), (37, .inl (false, 61, rv))]) _
  refine E_if_ne (tgt := 25) dX6_takes_19 (by decide) (fun _ => ?_) (fun c => (b2i_x1 (by decide) c).elim)
  refine E_aload_n dX6_takes_25 rfl ?_
  refine E_iload_n dX6_takes_26 rfl ?_
  refine E_callV (As := [.int (nI n)]) (l' := [.ref 0, .int (nI n), .null]) (st := []) dX6_takes_27 kX6_228 iX6_learnRowValues vX6_learnRowValues (by decide) rfl rfl MX6_learnRowValues rfl rfl (Nat.le_of_ble_eq_true rfl) (FC.use (c_learn d rk rv hk1 hk2 hrv n hn) rfl (L2 := [(0, .inr (6, [.ref 1, .ref 5, .ref 7, .ref 10, .ref 18, .ref 26, .ref 31, .ref 35, .ref 37, .int (nI (max rk (n + 1)))])), (37, .inl (false, 61, (rvK rv rk (max rk (n + 1)))))]) rfl) (Nat.le_of_ble_eq_true rfl) (fun _ _ hq9 => E_fgo ?_ hq9)
  show E _ _ 30 [.ref 0, .int (nI n), .int 1, .null] [] (hov hp [(0, .inr (6, [.ref 1, .ref 5, .ref 7, .ref 10, .ref 18, .ref 26, .ref 31, .ref 35, .ref 37, .int (nI (max rk (n + 1)))])), (37, .inl (false, 61, (rvK rv rk (max rk (n + 1)))))]) _
  refine E_aload_n dX6_takes_30 rfl ?_
  refine E_iload_n dX6_takes_31 rfl ?_
  refine E_callV (As := [.int (nI n)]) (l' := [.ref 0, .int (nI n), .null, .null]) (st := []) dX6_takes_32 kX6_232 iX6_winningTake vX6_winningTake (by decide) rfl rfl MX6_winningTake rfl rfl (Nat.le_of_ble_eq_true rfl) (FC.use (c_wt (d + 1) (max rk (n + 1)) (rvK rv rk (max rk (n + 1))) n hn (fun i hi => rvK_g hrv (by omega))) rfl (L2 := [(0, .inr (6, [.ref 1, .ref 5, .ref 7, .ref 10, .ref 18, .ref 26, .ref 31, .ref 35, .ref 37, .int (nI (max rk (n + 1)))])), (37, .inl (false, 61, (rvK rv rk (max rk (n + 1)))))]) rfl) (Nat.le_of_ble_eq_true rfl) (fun _ _ hq9 => E_fgo ?_ hq9)
  show E _ _ 35 [.ref 0, .int (nI n), .int 1, .null] [.int (wtR n)] (hov hp [(0, .inr (6, [.ref 1, .ref 5, .ref 7, .ref 10, .ref 18, .ref 26, .ref 31, .ref 35, .ref 37, .int (nI (max rk (n + 1)))])), (37, .inl (false, 61, (rvK rv rk (max rk (n + 1)))))]) _
  refine E_istore_n (l2 := [.ref 0, .int (nI n), .int 1, .int (wtR n)]) dX6_takes_35 rfl (by decide) rfl ?_
  refine E_iload_n dX6_takes_36 rfl ?_
  refine E_iconst (v := 1) dX6_takes_37 (by decide) ?_
  refine E_icmp_ne (tgt := 43) dX6_takes_38 (by decide) (fun c => by first | exact absurd c (by decide) | exact absurd (by decide) c) (fun _ => ?_)
  refine E_iload_n dX6_takes_41 rfl ?_
  exact E_iretf dX6_takes_42 rfl rfl rfl rfl

set_option maxHeartbeats 4000000 in
set_option maxRecDepth 20000 in
theorem t_tak_0y (d : Nat) (rk : Nat) (rv : Nat → Int32) (hk1 : 1 ≤ rk) (hk2 : rk ≤ 61) (hrv : ∀ i, i < rk → rv i = nI (K i)) (n : Nat) (hn : n ≤ 60) (h1 : inL (Int32.toInt64 (nI n)) 0 60 = true) (hw : wtR n = -6) : FC YX6_takes (d + 2) [.ref 0, .int (nI n), .int 0, .null] [(0, .inr (6, [.ref 1, .ref 5, .ref 7, .ref 10, .ref 18, .ref 26, .ref 31, .ref 35, .ref 37, .int (nI rk)])), (37, .inl (false, 61, rv))] (some (.int 0)) [(0, .inr (6, [.ref 1, .ref 5, .ref 7, .ref 10, .ref 18, .ref 26, .ref 31, .ref 35, .ref 37, .int (nI (max rk (n + 1)))])), (37, .inl (false, 61, (rvK rv rk (max rk (n + 1)))))] := by
  intro hp
  refine E_iload_n dX6_takes_0 rfl ?_
  refine E_i2l dX6_takes_1 ?_
  refine E_lconst (v := 0) dX6_takes_2 (by decide) ?_
  refine E_ldc2 dX6_takes_3 qX6_226 ?_
  refine E_callS (As := [.long (Int32.toInt64 (nI n)), .long 0, .long 60]) (l' := [.long (Int32.toInt64 (nI n)), .null, .long 0, .null, .long 60, .null]) (st := []) dX6_takes_6 kX6_73 sX6_isIn MX6_isIn rfl rfl (Nat.le_of_ble_eq_true rfl) (FC.use (c_isIn (d + 1) _ _ _) rfl (L2 := [(0, .inr (6, [.ref 1, .ref 5, .ref 7, .ref 10, .ref 18, .ref 26, .ref 31, .ref 35, .ref 37, .int (nI rk)])), (37, .inl (false, 61, rv))]) rfl) (Nat.le_of_ble_eq_true rfl) (fun _ _ hq9 => E_fgo ?_ hq9)
  show E _ _ 9 [.ref 0, .int (nI n), .int 0, .null] [.int (b2i (inL (Int32.toInt64 (nI n)) 0 60))] (hov hp [(0, .inr (6, [.ref 1, .ref 5, .ref 7, .ref 10, .ref 18, .ref 26, .ref 31, .ref 35, .ref 37, .int (nI rk)])), (37, .inl (false, 61, rv))]) _
  refine E_if_eq (tgt := 22) dX6_takes_9 (by decide) (fun c => (b2i_x1 h1 c).elim) (fun _ => ?_)
  refine E_iload_n dX6_takes_12 rfl ?_
  refine E_i2l dX6_takes_13 ?_
  refine E_lconst (v := 0) dX6_takes_14 (by decide) ?_
  refine E_lconst (v := 1) dX6_takes_15 (by decide) ?_
  refine E_callS (As := [.long (Int32.toInt64 0), .long 0, .long 1]) (l' := [.long (Int32.toInt64 0), .null, .long 0, .null, .long 1, .null]) (st := []) dX6_takes_16 kX6_73 sX6_isIn MX6_isIn rfl rfl (Nat.le_of_ble_eq_true rfl) (FC.use (c_isIn (d + 1) _ _ _) rfl (L2 := [(0, .inr (6, [.ref 1, .ref 5, .ref 7, .ref 10, .ref 18, .ref 26, .ref 31, .ref 35, .ref 37, .int (nI rk)])), (37, .inl (false, 61, rv))]) rfl) (Nat.le_of_ble_eq_true rfl) (fun _ _ hq9 => E_fgo ?_ hq9)
  show E _ _ 19 [.ref 0, .int (nI n), .int 0, .null] [.int (b2i (inL (Int32.toInt64 0) 0 1))] (hov hp [(0, .inr (6, [.ref 1, .ref 5, .ref 7, .ref 10, .ref 18, .ref 26, .ref 31, .ref 35, .ref 37, .int (nI rk)])), (37, .inl (false, 61, rv))]) _
  refine E_if_ne (tgt := 25) dX6_takes_19 (by decide) (fun _ => ?_) (fun c => (b2i_x1 (by decide) c).elim)
  refine E_aload_n dX6_takes_25 rfl ?_
  refine E_iload_n dX6_takes_26 rfl ?_
  refine E_callV (As := [.int (nI n)]) (l' := [.ref 0, .int (nI n), .null]) (st := []) dX6_takes_27 kX6_228 iX6_learnRowValues vX6_learnRowValues (by decide) rfl rfl MX6_learnRowValues rfl rfl (Nat.le_of_ble_eq_true rfl) (FC.use (c_learn d rk rv hk1 hk2 hrv n hn) rfl (L2 := [(0, .inr (6, [.ref 1, .ref 5, .ref 7, .ref 10, .ref 18, .ref 26, .ref 31, .ref 35, .ref 37, .int (nI (max rk (n + 1)))])), (37, .inl (false, 61, (rvK rv rk (max rk (n + 1)))))]) rfl) (Nat.le_of_ble_eq_true rfl) (fun _ _ hq9 => E_fgo ?_ hq9)
  show E _ _ 30 [.ref 0, .int (nI n), .int 0, .null] [] (hov hp [(0, .inr (6, [.ref 1, .ref 5, .ref 7, .ref 10, .ref 18, .ref 26, .ref 31, .ref 35, .ref 37, .int (nI (max rk (n + 1)))])), (37, .inl (false, 61, (rvK rv rk (max rk (n + 1)))))]) _
  refine E_aload_n dX6_takes_30 rfl ?_
  refine E_iload_n dX6_takes_31 rfl ?_
  refine E_callV (As := [.int (nI n)]) (l' := [.ref 0, .int (nI n), .null, .null]) (st := []) dX6_takes_32 kX6_232 iX6_winningTake vX6_winningTake (by decide) rfl rfl MX6_winningTake rfl rfl (Nat.le_of_ble_eq_true rfl) (FC.use (c_wt (d + 1) (max rk (n + 1)) (rvK rv rk (max rk (n + 1))) n hn (fun i hi => rvK_g hrv (by omega))) rfl (L2 := [(0, .inr (6, [.ref 1, .ref 5, .ref 7, .ref 10, .ref 18, .ref 26, .ref 31, .ref 35, .ref 37, .int (nI (max rk (n + 1)))])), (37, .inl (false, 61, (rvK rv rk (max rk (n + 1)))))]) rfl) (Nat.le_of_ble_eq_true rfl) (fun _ _ hq9 => E_fgo ?_ hq9)
  show E _ _ 35 [.ref 0, .int (nI n), .int 0, .null] [.int (wtR n)] (hov hp [(0, .inr (6, [.ref 1, .ref 5, .ref 7, .ref 10, .ref 18, .ref 26, .ref 31, .ref 35, .ref 37, .int (nI (max rk (n + 1)))])), (37, .inl (false, 61, (rvK rv rk (max rk (n + 1)))))]) _
  refine E_istore_n (l2 := [.ref 0, .int (nI n), .int 0, .int (wtR n)]) dX6_takes_35 rfl (by decide) rfl ?_
  refine E_iload_n dX6_takes_36 rfl ?_
  refine E_iconst (v := 1) dX6_takes_37 (by decide) ?_
  refine E_icmp_ne (tgt := 43) dX6_takes_38 (by decide) (fun _ => ?_) (fun c => by first | exact absurd c (by decide) | exact absurd (by decide) c)
  refine E_iload_n dX6_takes_43 rfl ?_
  refine E_bipush (v := (-6)) dX6_takes_44 (by decide) ?_
  refine E_icmp_ne (tgt := 53) dX6_takes_46 (by decide) (fun c => absurd hw c) (fun _ => ?_)
  refine E_iconst (v := 0) dX6_takes_49 (by decide) ?_
  refine E_goto (tgt := 54) dX6_takes_50 (by decide) ?_
  exact E_iretf dX6_takes_54 rfl rfl rfl rfl

set_option maxHeartbeats 4000000 in
set_option maxRecDepth 20000 in
theorem t_tak_0n (d : Nat) (rk : Nat) (rv : Nat → Int32) (hk1 : 1 ≤ rk) (hk2 : rk ≤ 61) (hrv : ∀ i, i < rk → rv i = nI (K i)) (n : Nat) (hn : n ≤ 60) (h1 : inL (Int32.toInt64 (nI n)) 0 60 = true) (hw : ¬ wtR n = -6) : FC YX6_takes (d + 2) [.ref 0, .int (nI n), .int 0, .null] [(0, .inr (6, [.ref 1, .ref 5, .ref 7, .ref 10, .ref 18, .ref 26, .ref 31, .ref 35, .ref 37, .int (nI rk)])), (37, .inl (false, 61, rv))] (some (.int 1)) [(0, .inr (6, [.ref 1, .ref 5, .ref 7, .ref 10, .ref 18, .ref 26, .ref 31, .ref 35, .ref 37, .int (nI (max rk (n + 1)))])), (37, .inl (false, 61, (rvK rv rk (max rk (n + 1)))))] := by
  intro hp
  refine E_iload_n dX6_takes_0 rfl ?_
  refine E_i2l dX6_takes_1 ?_
  refine E_lconst (v := 0) dX6_takes_2 (by decide) ?_
  refine E_ldc2 dX6_takes_3 qX6_226 ?_
  refine E_callS (As := [.long (Int32.toInt64 (nI n)), .long 0, .long 60]) (l' := [.long (Int32.toInt64 (nI n)), .null, .long 0, .null, .long 60, .null]) (st := []) dX6_takes_6 kX6_73 sX6_isIn MX6_isIn rfl rfl (Nat.le_of_ble_eq_true rfl) (FC.use (c_isIn (d + 1) _ _ _) rfl (L2 := [(0, .inr (6, [.ref 1, .ref 5, .ref 7, .ref 10, .ref 18, .ref 26, .ref 31, .ref 35, .ref 37, .int (nI rk)])), (37, .inl (false, 61, rv))]) rfl) (Nat.le_of_ble_eq_true rfl) (fun _ _ hq9 => E_fgo ?_ hq9)
  show E _ _ 9 [.ref 0, .int (nI n), .int 0, .null] [.int (b2i (inL (Int32.toInt64 (nI n)) 0 60))] (hov hp [(0, .inr (6, [.ref 1, .ref 5, .ref 7, .ref 10, .ref 18, .ref 26, .ref 31, .ref 35, .ref 37, .int (nI rk)])), (37, .inl (false, 61, rv))]) _
  refine E_if_eq (tgt := 22) dX6_takes_9 (by decide) (fun c => (b2i_x1 h1 c).elim) (fun _ => ?_)
  refine E_iload_n dX6_takes_12 rfl ?_
  refine E_i2l dX6_takes_13 ?_
  refine E_lconst (v := 0) dX6_takes_14 (by decide) ?_
  refine E_lconst (v := 1) dX6_takes_15 (by decide) ?_
  refine E_callS (As := [.long (Int32.toInt64 0), .long 0, .long 1]) (l' := [.long (Int32.toInt64 0), .null, .long 0, .null, .long 1, .null]) (st := []) dX6_takes_16 kX6_73 sX6_isIn MX6_isIn rfl rfl (Nat.le_of_ble_eq_true rfl) (FC.use (c_isIn (d + 1) _ _ _) rfl (L2 := [(0, .inr (6, [.ref 1, .ref 5, .ref 7, .ref 10, .ref 18, .ref 26, .ref 31, .ref 35, .ref 37, .int (nI rk)])), (37, .inl (false, 61, rv))]) rfl) (Nat.le_of_ble_eq_true rfl) (fun _ _ hq9 => E_fgo ?_ hq9)
  show E _ _ 19 [.ref 0, .int (nI n), .int 0, .null] [.int (b2i (inL (Int32.toInt64 0) 0 1))] (hov hp [(0, .inr (6, [.ref 1, .ref 5, .ref 7, .ref 10, .ref 18, .ref 26, .ref 31, .ref 35, .ref 37, .int (nI rk)])), (37, .inl (false, 61, rv))]) _
  refine E_if_ne (tgt := 25) dX6_takes_19 (by decide) (fun _ => ?_) (fun c => (b2i_x1 (by decide) c).elim)
  refine E_aload_n dX6_takes_25 rfl ?_
  refine E_iload_n dX6_takes_26 rfl ?_
  refine E_callV (As := [.int (nI n)]) (l' := [.ref 0, .int (nI n), .null]) (st := []) dX6_takes_27 kX6_228 iX6_learnRowValues vX6_learnRowValues (by decide) rfl rfl MX6_learnRowValues rfl rfl (Nat.le_of_ble_eq_true rfl) (FC.use (c_learn d rk rv hk1 hk2 hrv n hn) rfl (L2 := [(0, .inr (6, [.ref 1, .ref 5, .ref 7, .ref 10, .ref 18, .ref 26, .ref 31, .ref 35, .ref 37, .int (nI (max rk (n + 1)))])), (37, .inl (false, 61, (rvK rv rk (max rk (n + 1)))))]) rfl) (Nat.le_of_ble_eq_true rfl) (fun _ _ hq9 => E_fgo ?_ hq9)
  show E _ _ 30 [.ref 0, .int (nI n), .int 0, .null] [] (hov hp [(0, .inr (6, [.ref 1, .ref 5, .ref 7, .ref 10, .ref 18, .ref 26, .ref 31, .ref 35, .ref 37, .int (nI (max rk (n + 1)))])), (37, .inl (false, 61, (rvK rv rk (max rk (n + 1)))))]) _
  refine E_aload_n dX6_takes_30 rfl ?_
  refine E_iload_n dX6_takes_31 rfl ?_
  refine E_callV (As := [.int (nI n)]) (l' := [.ref 0, .int (nI n), .null, .null]) (st := []) dX6_takes_32 kX6_232 iX6_winningTake vX6_winningTake (by decide) rfl rfl MX6_winningTake rfl rfl (Nat.le_of_ble_eq_true rfl) (FC.use (c_wt (d + 1) (max rk (n + 1)) (rvK rv rk (max rk (n + 1))) n hn (fun i hi => rvK_g hrv (by omega))) rfl (L2 := [(0, .inr (6, [.ref 1, .ref 5, .ref 7, .ref 10, .ref 18, .ref 26, .ref 31, .ref 35, .ref 37, .int (nI (max rk (n + 1)))])), (37, .inl (false, 61, (rvK rv rk (max rk (n + 1)))))]) rfl) (Nat.le_of_ble_eq_true rfl) (fun _ _ hq9 => E_fgo ?_ hq9)
  show E _ _ 35 [.ref 0, .int (nI n), .int 0, .null] [.int (wtR n)] (hov hp [(0, .inr (6, [.ref 1, .ref 5, .ref 7, .ref 10, .ref 18, .ref 26, .ref 31, .ref 35, .ref 37, .int (nI (max rk (n + 1)))])), (37, .inl (false, 61, (rvK rv rk (max rk (n + 1)))))]) _
  refine E_istore_n (l2 := [.ref 0, .int (nI n), .int 0, .int (wtR n)]) dX6_takes_35 rfl (by decide) rfl ?_
  refine E_iload_n dX6_takes_36 rfl ?_
  refine E_iconst (v := 1) dX6_takes_37 (by decide) ?_
  refine E_icmp_ne (tgt := 43) dX6_takes_38 (by decide) (fun _ => ?_) (fun c => by first | exact absurd c (by decide) | exact absurd (by decide) c)
  refine E_iload_n dX6_takes_43 rfl ?_
  refine E_bipush (v := (-6)) dX6_takes_44 (by decide) ?_
  refine E_icmp_ne (tgt := 53) dX6_takes_46 (by decide) (fun _ => ?_) (fun c => absurd c hw)
  refine E_iconst (v := 1) dX6_takes_53 (by decide) ?_
  exact E_iretf dX6_takes_54 rfl rfl rfl rfl

set_option maxHeartbeats 4000000 in
set_option maxRecDepth 20000 in
theorem c_gd (d : Nat) (u y : Int64) : FC YX6_greatestDivisor d [.long u, .null, .long y, .null, .null, .null, .null, .null, .null, .null, .null] [] (some (.long (gd 1000 u y))) [] := by
  intro hp
  refine E_lload_n dX6_greatestDivisor_0 rfl ?_
  refine E_lstore (l2 := [.long u, .null, .long y, .null, .long u, .null, .null, .null, .null, .null, .null]) dX6_greatestDivisor_1 (by decide) rfl ?_
  refine E_lload_n dX6_greatestDivisor_3 rfl ?_
  refine E_lstore (l2 := [.long u, .null, .long y, .null, .long u, .null, .long y, .null, .null, .null, .null]) dX6_greatestDivisor_4 (by decide) rfl ?_
  refine E_iconst (v := 0) dX6_greatestDivisor_6 (by decide) ?_
  refine E_istore (l2 := [.long u, .null, .long y, .null, .long u, .null, .long y, .null, .int 0, .null, .null]) dX6_greatestDivisor_7 (by decide) rfl ?_
  have L : ∀ (k i : Nat) (a b : Int64) (l9 l10 : Value), i + k = 1000 → gd k a b = gd 1000 u y → E YX6_greatestDivisor d 9 [.long u, .null, .long y, .null, .long a, .null, .long b, .null, .int (nI i), l9, l10] [] (hov hp []) (fun v h' => v = some (.long (gd 1000 u y)) ∧ h' = hov hp []) := by
    intro k
    induction k with
    | zero =>
      intro i a b l9 l10 hik he
      refine E_iload dX6_greatestDivisor_9 rfl ?_
      refine E_sipush (v := 1000) dX6_greatestDivisor_11 (by decide) ?_
      refine E_icmp_ge (tgt := 45) dX6_greatestDivisor_14 (by decide) (fun _ => ?_) (fun c => absurd (show (1000 : Int32) ≤ nI i by rw [show i = 1000 by omega]; decide) c)
      refine E_lload dX6_greatestDivisor_45 rfl ?_
      exact E_lretf dX6_greatestDivisor_47 rfl he rfl
    | succ k ih =>
      intro i a b l9 l10 hik he
      refine E_iload dX6_greatestDivisor_9 rfl ?_
      refine E_sipush (v := 1000) dX6_greatestDivisor_11 (by decide) ?_
      refine E_icmp_ge (tgt := 45) dX6_greatestDivisor_14 (by decide) (fun c => absurd c (cI_nle (n := 1000) rfl (by omega) (by decide))) (fun _ => ?_)
      refine E_lload dX6_greatestDivisor_17 rfl ?_
      refine E_lconst (v := 0) dX6_greatestDivisor_19 (by decide) ?_
      refine E_lcmp dX6_greatestDivisor_20 ?_
      refine E_if_eq (tgt := 45) dX6_greatestDivisor_21 (by decide) (fun c21 => ?_) (fun c21 => ?_)
      · rw [lg_cmp_eq] at c21
        refine E_lload dX6_greatestDivisor_45 rfl ?_
        exact E_lretf dX6_greatestDivisor_47 rfl (by rw [← he, gd, if_pos c21]) rfl
      · rw [lg_cmp_eq] at c21
        refine E_lload dX6_greatestDivisor_24 rfl ?_
        refine E_lload dX6_greatestDivisor_26 rfl ?_
        refine E_lrem dX6_greatestDivisor_28 c21 ?_
        refine E_lstore (l2 := [.long u, .null, .long y, .null, .long a, .null, .long b, .null, .int (nI i), .long (rmL a b), .null]) dX6_greatestDivisor_29 (by decide) rfl ?_
        refine E_lload dX6_greatestDivisor_31 rfl ?_
        refine E_lstore (l2 := [.long u, .null, .long y, .null, .long b, .null, .long b, .null, .int (nI i), .long (rmL a b), .null]) dX6_greatestDivisor_33 (by decide) rfl ?_
        refine E_lload dX6_greatestDivisor_35 rfl ?_
        refine E_lstore (l2 := [.long u, .null, .long y, .null, .long b, .null, .long (rmL a b), .null, .int (nI i), .long (rmL a b), .null]) dX6_greatestDivisor_37 (by decide) rfl ?_
        refine E_iinc (y := nI (i + 1)) (l2 := [.long u, .null, .long y, .null, .long b, .null, .long (rmL a b), .null, .int (nI (i + 1)), .long (rmL a b), .null]) dX6_greatestDivisor_39 rfl (nI_1 _) (by decide) rfl ?_
        refine E_goto (tgt := 9) dX6_greatestDivisor_42 (by decide) ?_
        exact ih (i + 1) _ _ _ _ (by omega) (by rw [← he, gd, if_neg c21])
  exact L 1000 0 u y _ _ (by omega) rfl

set_option maxHeartbeats 4000000 in
set_option maxRecDepth 20000 in
theorem c_ilt (d : Nat) (u v : Int64) (p : Int32) : FC YX6_inLowestTerms (d + 1) [.long u, .null, .long v, .null, .int p, .null, .null, .null, .null] [] (some (.long (ilt u v p))) [] := by
  intro hp
  refine E_lload_n dX6_inLowestTerms_0 rfl ?_
  refine E_lload_n dX6_inLowestTerms_1 rfl ?_
  refine E_callS (As := [.long u, .long v]) (l' := [.long u, .null, .long v, .null, .null, .null, .null, .null, .null, .null, .null]) (st := []) dX6_inLowestTerms_2 kX6_248 sX6_greatestDivisor MX6_greatestDivisor rfl rfl (Nat.le_of_ble_eq_true rfl) (FC.use (c_gd d _ _) rfl (L2 := []) rfl) (Nat.le_of_ble_eq_true rfl) (fun _ _ hq9 => E_fgo ?_ hq9)
  show E _ _ 5 [.long u, .null, .long v, .null, .int p, .null, .null, .null, .null] [.long (gd 1000 u v)] (hov hp []) _
  refine E_lstore (l2 := [.long u, .null, .long v, .null, .int p, .long (gd 1000 u v), .null, .null, .null]) dX6_inLowestTerms_5 (by decide) rfl ?_
  refine E_iload dX6_inLowestTerms_7 rfl ?_
  refine E_if_ne (tgt := 16) dX6_inLowestTerms_9 (by decide) (fun c9 => ?_) (fun c9 => ?_)
  · refine E_lload_n dX6_inLowestTerms_16 rfl ?_
    refine E_lstore (l2 := [.long u, .null, .long v, .null, .int p, .long (gd 1000 u v), .null, .long v, .null]) dX6_inLowestTerms_17 (by decide) rfl ?_
    refine E_lload dX6_inLowestTerms_19 rfl ?_
    refine E_lconst (v := 0) dX6_inLowestTerms_21 (by decide) ?_
    refine E_lcmp dX6_inLowestTerms_22 ?_
    refine E_if_ne (tgt := 31) dX6_inLowestTerms_23 (by decide) (fun c23 => ?_) (fun c23 => ?_)
    · rw [lg_cmp_eq] at c23
      refine E_lload dX6_inLowestTerms_31 rfl ?_
      refine E_lload dX6_inLowestTerms_33 rfl ?_
      refine E_ldiv dX6_inLowestTerms_35 c23 ?_
      exact E_lretf dX6_inLowestTerms_36 rfl (by simp [ilt, c9, c23]) rfl
    · rw [lg_cmp_eq] at c23
      refine E_lload dX6_inLowestTerms_26 rfl ?_
      refine E_goto (tgt := 36) dX6_inLowestTerms_28 (by decide) ?_
      exact E_lretf dX6_inLowestTerms_36 rfl (by simp [ilt, c9, c23]) rfl
  · refine E_lload_n dX6_inLowestTerms_12 rfl ?_
    refine E_goto (tgt := 17) dX6_inLowestTerms_13 (by decide) ?_
    refine E_lstore (l2 := [.long u, .null, .long v, .null, .int p, .long (gd 1000 u v), .null, .long u, .null]) dX6_inLowestTerms_17 (by decide) rfl ?_
    refine E_lload dX6_inLowestTerms_19 rfl ?_
    refine E_lconst (v := 0) dX6_inLowestTerms_21 (by decide) ?_
    refine E_lcmp dX6_inLowestTerms_22 ?_
    refine E_if_ne (tgt := 31) dX6_inLowestTerms_23 (by decide) (fun c23 => ?_) (fun c23 => ?_)
    · rw [lg_cmp_eq] at c23
      refine E_lload dX6_inLowestTerms_31 rfl ?_
      refine E_lload dX6_inLowestTerms_33 rfl ?_
      refine E_ldiv dX6_inLowestTerms_35 c23 ?_
      exact E_lretf dX6_inLowestTerms_36 rfl (by simp [ilt, c9, c23]) rfl
    · rw [lg_cmp_eq] at c23
      refine E_lload dX6_inLowestTerms_26 rfl ?_
      refine E_goto (tgt := 36) dX6_inLowestTerms_28 (by decide) ?_
      exact E_lretf dX6_inLowestTerms_36 rfl (by simp [ilt, c9, c23]) rfl

set_option maxHeartbeats 4000000 in
set_option maxRecDepth 20000 in
theorem t_lean_oN (d : Nat) (rk : Nat) (n t w p : Int32) (h1 : inL (Int32.toInt64 n) 0 8 = false) : FC YX6_lean (d + 2) [.ref 0, .int n, .int t, .int w, .int p, .null, .null, .null, .null, .null, .null] [(0, .inr (6, [.ref 1, .ref 5, .ref 7, .ref 10, .ref 18, .ref 26, .ref 31, .ref 35, .ref 37, .int (nI rk)]))] (some (.long (-1000000000000000002))) [(0, .inr (6, [.ref 1, .ref 5, .ref 7, .ref 10, .ref 18, .ref 26, .ref 31, .ref 35, .ref 37, .int (nI rk)]))] := by
  intro hp
  refine E_iload_n dX6_lean_0 rfl ?_
  refine E_i2l dX6_lean_1 ?_
  refine E_lconst (v := 0) dX6_lean_2 (by decide) ?_
  refine E_ldc2 dX6_lean_3 qX6_177 ?_
  refine E_callS (As := [.long (Int32.toInt64 n), .long 0, .long 8]) (l' := [.long (Int32.toInt64 n), .null, .long 0, .null, .long 8, .null]) (st := []) dX6_lean_6 kX6_73 sX6_isIn MX6_isIn rfl rfl (Nat.le_of_ble_eq_true rfl) (FC.use (c_isIn (d + 1) _ _ _) rfl (L2 := [(0, .inr (6, [.ref 1, .ref 5, .ref 7, .ref 10, .ref 18, .ref 26, .ref 31, .ref 35, .ref 37, .int (nI rk)]))]) rfl) (Nat.le_of_ble_eq_true rfl) (fun _ _ hq9 => E_fgo ?_ hq9)
  show E _ _ 9 [.ref 0, .int n, .int t, .int w, .int p, .null, .null, .null, .null, .null, .null] [.int (b2i (inL (Int32.toInt64 n) 0 8))] (hov hp [(0, .inr (6, [.ref 1, .ref 5, .ref 7, .ref 10, .ref 18, .ref 26, .ref 31, .ref 35, .ref 37, .int (nI rk)]))]) _
  refine E_if_eq (tgt := 33) dX6_lean_9 (by decide) (fun _ => ?_) (fun c => (b2i_x0 h1 c).elim)
  refine E_ldc2 dX6_lean_33 qX6_240 ?_
  exact E_lretf dX6_lean_36 rfl rfl rfl

set_option maxHeartbeats 4000000 in
set_option maxRecDepth 20000 in
theorem t_lean_oT1 (d : Nat) (rk : Nat) (n t w p : Int32) (h1 : inL (Int32.toInt64 n) 0 8 = true) (hw : w = 1) (h2 : inL (Int32.toInt64 t) 1 10 = false) : FC YX6_lean (d + 2) [.ref 0, .int n, .int t, .int w, .int p, .null, .null, .null, .null, .null, .null] [(0, .inr (6, [.ref 1, .ref 5, .ref 7, .ref 10, .ref 18, .ref 26, .ref 31, .ref 35, .ref 37, .int (nI rk)]))] (some (.long (-1000000000000000002))) [(0, .inr (6, [.ref 1, .ref 5, .ref 7, .ref 10, .ref 18, .ref 26, .ref 31, .ref 35, .ref 37, .int (nI rk)]))] := by
  intro hp
  refine E_iload_n dX6_lean_0 rfl ?_
  refine E_i2l dX6_lean_1 ?_
  refine E_lconst (v := 0) dX6_lean_2 (by decide) ?_
  refine E_ldc2 dX6_lean_3 qX6_177 ?_
  refine E_callS (As := [.long (Int32.toInt64 n), .long 0, .long 8]) (l' := [.long (Int32.toInt64 n), .null, .long 0, .null, .long 8, .null]) (st := []) dX6_lean_6 kX6_73 sX6_isIn MX6_isIn rfl rfl (Nat.le_of_ble_eq_true rfl) (FC.use (c_isIn (d + 1) _ _ _) rfl (L2 := [(0, .inr (6, [.ref 1, .ref 5, .ref 7, .ref 10, .ref 18, .ref 26, .ref 31, .ref 35, .ref 37, .int (nI rk)]))]) rfl) (Nat.le_of_ble_eq_true rfl) (fun _ _ hq9 => E_fgo ?_ hq9)
  show E _ _ 9 [.ref 0, .int n, .int t, .int w, .int p, .null, .null, .null, .null, .null, .null] [.int (b2i (inL (Int32.toInt64 n) 0 8))] (hov hp [(0, .inr (6, [.ref 1, .ref 5, .ref 7, .ref 10, .ref 18, .ref 26, .ref 31, .ref 35, .ref 37, .int (nI rk)]))]) _
  refine E_if_eq (tgt := 33) dX6_lean_9 (by decide) (fun c => (b2i_x1 h1 c).elim) (fun _ => ?_)
  refine E_iload_n dX6_lean_12 rfl ?_
  refine E_i2l dX6_lean_13 ?_
  refine E_iload_n dX6_lean_14 rfl ?_
  refine E_iconst (v := 1) dX6_lean_15 (by decide) ?_
  refine E_icmp_ne (tgt := 23) dX6_lean_16 (by decide) (fun c => absurd hw c) (fun _ => ?_)
  refine E_lconst (v := 1) dX6_lean_19 (by decide) ?_
  refine E_goto (tgt := 24) dX6_lean_20 (by decide) ?_
  refine E_ldc2 dX6_lean_24 qX6_238 ?_
  refine E_callS (As := [.long (Int32.toInt64 t), .long 1, .long 10]) (l' := [.long (Int32.toInt64 t), .null, .long 1, .null, .long 10, .null]) (st := []) dX6_lean_27 kX6_73 sX6_isIn MX6_isIn rfl rfl (Nat.le_of_ble_eq_true rfl) (FC.use (c_isIn (d + 1) _ _ _) rfl (L2 := [(0, .inr (6, [.ref 1, .ref 5, .ref 7, .ref 10, .ref 18, .ref 26, .ref 31, .ref 35, .ref 37, .int (nI rk)]))]) rfl) (Nat.le_of_ble_eq_true rfl) (fun _ _ hq9 => E_fgo ?_ hq9)
  show E _ _ 30 [.ref 0, .int n, .int t, .int w, .int p, .null, .null, .null, .null, .null, .null] [.int (b2i (inL (Int32.toInt64 t) 1 10))] (hov hp [(0, .inr (6, [.ref 1, .ref 5, .ref 7, .ref 10, .ref 18, .ref 26, .ref 31, .ref 35, .ref 37, .int (nI rk)]))]) _
  refine E_if_ne (tgt := 37) dX6_lean_30 (by decide) (fun c => (b2i_x0 h2 c).elim) (fun _ => ?_)
  refine E_ldc2 dX6_lean_33 qX6_240 ?_
  exact E_lretf dX6_lean_36 rfl rfl rfl

set_option maxHeartbeats 4000000 in
set_option maxRecDepth 20000 in
theorem t_lean_oP1 (d : Nat) (rk : Nat) (n t w p : Int32) (h1 : inL (Int32.toInt64 n) 0 8 = true) (hw : w = 1) (h2 : inL (Int32.toInt64 t) 1 10 = true) (h3 : inL (Int32.toInt64 w) 0 1 = true) (h4 : inL (Int32.toInt64 p) 0 1 = false) : FC YX6_lean (d + 2) [.ref 0, .int n, .int t, .int w, .int p, .null, .null, .null, .null, .null, .null] [(0, .inr (6, [.ref 1, .ref 5, .ref 7, .ref 10, .ref 18, .ref 26, .ref 31, .ref 35, .ref 37, .int (nI rk)]))] (some (.long (-1000000000000000002))) [(0, .inr (6, [.ref 1, .ref 5, .ref 7, .ref 10, .ref 18, .ref 26, .ref 31, .ref 35, .ref 37, .int (nI rk)]))] := by
  intro hp
  refine E_iload_n dX6_lean_0 rfl ?_
  refine E_i2l dX6_lean_1 ?_
  refine E_lconst (v := 0) dX6_lean_2 (by decide) ?_
  refine E_ldc2 dX6_lean_3 qX6_177 ?_
  refine E_callS (As := [.long (Int32.toInt64 n), .long 0, .long 8]) (l' := [.long (Int32.toInt64 n), .null, .long 0, .null, .long 8, .null]) (st := []) dX6_lean_6 kX6_73 sX6_isIn MX6_isIn rfl rfl (Nat.le_of_ble_eq_true rfl) (FC.use (c_isIn (d + 1) _ _ _) rfl (L2 := [(0, .inr (6, [.ref 1, .ref 5, .ref 7, .ref 10, .ref 18, .ref 26, .ref 31, .ref 35, .ref 37, .int (nI rk)]))]) rfl) (Nat.le_of_ble_eq_true rfl) (fun _ _ hq9 => E_fgo ?_ hq9)
  show E _ _ 9 [.ref 0, .int n, .int t, .int w, .int p, .null, .null, .null, .null, .null, .null] [.int (b2i (inL (Int32.toInt64 n) 0 8))] (hov hp [(0, .inr (6, [.ref 1, .ref 5, .ref 7, .ref 10, .ref 18, .ref 26, .ref 31, .ref 35, .ref 37, .int (nI rk)]))]) _
  refine E_if_eq (tgt := 33) dX6_lean_9 (by decide) (fun c => (b2i_x1 h1 c).elim) (fun _ => ?_)
  refine E_iload_n dX6_lean_12 rfl ?_
  refine E_i2l dX6_lean_13 ?_
  refine E_iload_n dX6_lean_14 rfl ?_
  refine E_iconst (v := 1) dX6_lean_15 (by decide) ?_
  refine E_icmp_ne (tgt := 23) dX6_lean_16 (by decide) (fun c => absurd hw c) (fun _ => ?_)
  refine E_lconst (v := 1) dX6_lean_19 (by decide) ?_
  refine E_goto (tgt := 24) dX6_lean_20 (by decide) ?_
  refine E_ldc2 dX6_lean_24 qX6_238 ?_
  refine E_callS (As := [.long (Int32.toInt64 t), .long 1, .long 10]) (l' := [.long (Int32.toInt64 t), .null, .long 1, .null, .long 10, .null]) (st := []) dX6_lean_27 kX6_73 sX6_isIn MX6_isIn rfl rfl (Nat.le_of_ble_eq_true rfl) (FC.use (c_isIn (d + 1) _ _ _) rfl (L2 := [(0, .inr (6, [.ref 1, .ref 5, .ref 7, .ref 10, .ref 18, .ref 26, .ref 31, .ref 35, .ref 37, .int (nI rk)]))]) rfl) (Nat.le_of_ble_eq_true rfl) (fun _ _ hq9 => E_fgo ?_ hq9)
  show E _ _ 30 [.ref 0, .int n, .int t, .int w, .int p, .null, .null, .null, .null, .null, .null] [.int (b2i (inL (Int32.toInt64 t) 1 10))] (hov hp [(0, .inr (6, [.ref 1, .ref 5, .ref 7, .ref 10, .ref 18, .ref 26, .ref 31, .ref 35, .ref 37, .int (nI rk)]))]) _
  refine E_if_ne (tgt := 37) dX6_lean_30 (by decide) (fun _ => ?_) (fun c => (b2i_x1 h2 c).elim)
  refine E_iload_n dX6_lean_37 rfl ?_
  refine E_i2l dX6_lean_38 ?_
  refine E_lconst (v := 0) dX6_lean_39 (by decide) ?_
  refine E_lconst (v := 1) dX6_lean_40 (by decide) ?_
  refine E_callS (As := [.long (Int32.toInt64 w), .long 0, .long 1]) (l' := [.long (Int32.toInt64 w), .null, .long 0, .null, .long 1, .null]) (st := []) dX6_lean_41 kX6_73 sX6_isIn MX6_isIn rfl rfl (Nat.le_of_ble_eq_true rfl) (FC.use (c_isIn (d + 1) _ _ _) rfl (L2 := [(0, .inr (6, [.ref 1, .ref 5, .ref 7, .ref 10, .ref 18, .ref 26, .ref 31, .ref 35, .ref 37, .int (nI rk)]))]) rfl) (Nat.le_of_ble_eq_true rfl) (fun _ _ hq9 => E_fgo ?_ hq9)
  show E _ _ 44 [.ref 0, .int n, .int t, .int w, .int p, .null, .null, .null, .null, .null, .null] [.int (b2i (inL (Int32.toInt64 w) 0 1))] (hov hp [(0, .inr (6, [.ref 1, .ref 5, .ref 7, .ref 10, .ref 18, .ref 26, .ref 31, .ref 35, .ref 37, .int (nI rk)]))]) _
  refine E_if_eq (tgt := 58) dX6_lean_44 (by decide) (fun c => (b2i_x1 h3 c).elim) (fun _ => ?_)
  refine E_iload dX6_lean_47 rfl ?_
  refine E_i2l dX6_lean_49 ?_
  refine E_lconst (v := 0) dX6_lean_50 (by decide) ?_
  refine E_lconst (v := 1) dX6_lean_51 (by decide) ?_
  refine E_callS (As := [.long (Int32.toInt64 p), .long 0, .long 1]) (l' := [.long (Int32.toInt64 p), .null, .long 0, .null, .long 1, .null]) (st := []) dX6_lean_52 kX6_73 sX6_isIn MX6_isIn rfl rfl (Nat.le_of_ble_eq_true rfl) (FC.use (c_isIn (d + 1) _ _ _) rfl (L2 := [(0, .inr (6, [.ref 1, .ref 5, .ref 7, .ref 10, .ref 18, .ref 26, .ref 31, .ref 35, .ref 37, .int (nI rk)]))]) rfl) (Nat.le_of_ble_eq_true rfl) (fun _ _ hq9 => E_fgo ?_ hq9)
  show E _ _ 55 [.ref 0, .int n, .int t, .int w, .int p, .null, .null, .null, .null, .null, .null] [.int (b2i (inL (Int32.toInt64 p) 0 1))] (hov hp [(0, .inr (6, [.ref 1, .ref 5, .ref 7, .ref 10, .ref 18, .ref 26, .ref 31, .ref 35, .ref 37, .int (nI rk)]))]) _
  refine E_if_ne (tgt := 62) dX6_lean_55 (by decide) (fun c => (b2i_x0 h4 c).elim) (fun _ => ?_)
  refine E_ldc2 dX6_lean_58 qX6_240 ?_
  exact E_lretf dX6_lean_61 rfl rfl rfl

set_option maxHeartbeats 4000000 in
set_option maxRecDepth 20000 in
theorem t_lean_oT0 (d : Nat) (rk : Nat) (n t w p : Int32) (h1 : inL (Int32.toInt64 n) 0 8 = true) (hw : ¬ w = 1) (h2 : inL (Int32.toInt64 t) 0 10 = false) : FC YX6_lean (d + 2) [.ref 0, .int n, .int t, .int w, .int p, .null, .null, .null, .null, .null, .null] [(0, .inr (6, [.ref 1, .ref 5, .ref 7, .ref 10, .ref 18, .ref 26, .ref 31, .ref 35, .ref 37, .int (nI rk)]))] (some (.long (-1000000000000000002))) [(0, .inr (6, [.ref 1, .ref 5, .ref 7, .ref 10, .ref 18, .ref 26, .ref 31, .ref 35, .ref 37, .int (nI rk)]))] := by
  intro hp
  refine E_iload_n dX6_lean_0 rfl ?_
  refine E_i2l dX6_lean_1 ?_
  refine E_lconst (v := 0) dX6_lean_2 (by decide) ?_
  refine E_ldc2 dX6_lean_3 qX6_177 ?_
  refine E_callS (As := [.long (Int32.toInt64 n), .long 0, .long 8]) (l' := [.long (Int32.toInt64 n), .null, .long 0, .null, .long 8, .null]) (st := []) dX6_lean_6 kX6_73 sX6_isIn MX6_isIn rfl rfl (Nat.le_of_ble_eq_true rfl) (FC.use (c_isIn (d + 1) _ _ _) rfl (L2 := [(0, .inr (6, [.ref 1, .ref 5, .ref 7, .ref 10, .ref 18, .ref 26, .ref 31, .ref 35, .ref 37, .int (nI rk)]))]) rfl) (Nat.le_of_ble_eq_true rfl) (fun _ _ hq9 => E_fgo ?_ hq9)
  show E _ _ 9 [.ref 0, .int n, .int t, .int w, .int p, .null, .null, .null, .null, .null, .null] [.int (b2i (inL (Int32.toInt64 n) 0 8))] (hov hp [(0, .inr (6, [.ref 1, .ref 5, .ref 7, .ref 10, .ref 18, .ref 26, .ref 31, .ref 35, .ref 37, .int (nI rk)]))]) _
  refine E_if_eq (tgt := 33) dX6_lean_9 (by decide) (fun c => (b2i_x1 h1 c).elim) (fun _ => ?_)
  refine E_iload_n dX6_lean_12 rfl ?_
  refine E_i2l dX6_lean_13 ?_
  refine E_iload_n dX6_lean_14 rfl ?_
  refine E_iconst (v := 1) dX6_lean_15 (by decide) ?_
  refine E_icmp_ne (tgt := 23) dX6_lean_16 (by decide) (fun _ => ?_) (fun c => absurd c hw)
  refine E_lconst (v := 0) dX6_lean_23 (by decide) ?_
  refine E_ldc2 dX6_lean_24 qX6_238 ?_
  refine E_callS (As := [.long (Int32.toInt64 t), .long 0, .long 10]) (l' := [.long (Int32.toInt64 t), .null, .long 0, .null, .long 10, .null]) (st := []) dX6_lean_27 kX6_73 sX6_isIn MX6_isIn rfl rfl (Nat.le_of_ble_eq_true rfl) (FC.use (c_isIn (d + 1) _ _ _) rfl (L2 := [(0, .inr (6, [.ref 1, .ref 5, .ref 7, .ref 10, .ref 18, .ref 26, .ref 31, .ref 35, .ref 37, .int (nI rk)]))]) rfl) (Nat.le_of_ble_eq_true rfl) (fun _ _ hq9 => E_fgo ?_ hq9)
  show E _ _ 30 [.ref 0, .int n, .int t, .int w, .int p, .null, .null, .null, .null, .null, .null] [.int (b2i (inL (Int32.toInt64 t) 0 10))] (hov hp [(0, .inr (6, [.ref 1, .ref 5, .ref 7, .ref 10, .ref 18, .ref 26, .ref 31, .ref 35, .ref 37, .int (nI rk)]))]) _
  refine E_if_ne (tgt := 37) dX6_lean_30 (by decide) (fun c => (b2i_x0 h2 c).elim) (fun _ => ?_)
  refine E_ldc2 dX6_lean_33 qX6_240 ?_
  exact E_lretf dX6_lean_36 rfl rfl rfl

set_option maxHeartbeats 4000000 in
set_option maxRecDepth 20000 in
theorem t_lean_oP0 (d : Nat) (rk : Nat) (n t w p : Int32) (h1 : inL (Int32.toInt64 n) 0 8 = true) (hw : ¬ w = 1) (h2 : inL (Int32.toInt64 t) 0 10 = true) (h3 : inL (Int32.toInt64 w) 0 1 = true) (h4 : inL (Int32.toInt64 p) 0 1 = false) : FC YX6_lean (d + 2) [.ref 0, .int n, .int t, .int w, .int p, .null, .null, .null, .null, .null, .null] [(0, .inr (6, [.ref 1, .ref 5, .ref 7, .ref 10, .ref 18, .ref 26, .ref 31, .ref 35, .ref 37, .int (nI rk)]))] (some (.long (-1000000000000000002))) [(0, .inr (6, [.ref 1, .ref 5, .ref 7, .ref 10, .ref 18, .ref 26, .ref 31, .ref 35, .ref 37, .int (nI rk)]))] := by
  intro hp
  refine E_iload_n dX6_lean_0 rfl ?_
  refine E_i2l dX6_lean_1 ?_
  refine E_lconst (v := 0) dX6_lean_2 (by decide) ?_
  refine E_ldc2 dX6_lean_3 qX6_177 ?_
  refine E_callS (As := [.long (Int32.toInt64 n), .long 0, .long 8]) (l' := [.long (Int32.toInt64 n), .null, .long 0, .null, .long 8, .null]) (st := []) dX6_lean_6 kX6_73 sX6_isIn MX6_isIn rfl rfl (Nat.le_of_ble_eq_true rfl) (FC.use (c_isIn (d + 1) _ _ _) rfl (L2 := [(0, .inr (6, [.ref 1, .ref 5, .ref 7, .ref 10, .ref 18, .ref 26, .ref 31, .ref 35, .ref 37, .int (nI rk)]))]) rfl) (Nat.le_of_ble_eq_true rfl) (fun _ _ hq9 => E_fgo ?_ hq9)
  show E _ _ 9 [.ref 0, .int n, .int t, .int w, .int p, .null, .null, .null, .null, .null, .null] [.int (b2i (inL (Int32.toInt64 n) 0 8))] (hov hp [(0, .inr (6, [.ref 1, .ref 5, .ref 7, .ref 10, .ref 18, .ref 26, .ref 31, .ref 35, .ref 37, .int (nI rk)]))]) _
  refine E_if_eq (tgt := 33) dX6_lean_9 (by decide) (fun c => (b2i_x1 h1 c).elim) (fun _ => ?_)
  refine E_iload_n dX6_lean_12 rfl ?_
  refine E_i2l dX6_lean_13 ?_
  refine E_iload_n dX6_lean_14 rfl ?_
  refine E_iconst (v := 1) dX6_lean_15 (by decide) ?_
  refine E_icmp_ne (tgt := 23) dX6_lean_16 (by decide) (fun _ => ?_) (fun c => absurd c hw)
  refine E_lconst (v := 0) dX6_lean_23 (by decide) ?_
  refine E_ldc2 dX6_lean_24 qX6_238 ?_
  refine E_callS (As := [.long (Int32.toInt64 t), .long 0, .long 10]) (l' := [.long (Int32.toInt64 t), .null, .long 0, .null, .long 10, .null]) (st := []) dX6_lean_27 kX6_73 sX6_isIn MX6_isIn rfl rfl (Nat.le_of_ble_eq_true rfl) (FC.use (c_isIn (d + 1) _ _ _) rfl (L2 := [(0, .inr (6, [.ref 1, .ref 5, .ref 7, .ref 10, .ref 18, .ref 26, .ref 31, .ref 35, .ref 37, .int (nI rk)]))]) rfl) (Nat.le_of_ble_eq_true rfl) (fun _ _ hq9 => E_fgo ?_ hq9)
  show E _ _ 30 [.ref 0, .int n, .int t, .int w, .int p, .null, .null, .null, .null, .null, .null] [.int (b2i (inL (Int32.toInt64 t) 0 10))] (hov hp [(0, .inr (6, [.ref 1, .ref 5, .ref 7, .ref 10, .ref 18, .ref 26, .ref 31, .ref 35, .ref 37, .int (nI rk)]))]) _
  refine E_if_ne (tgt := 37) dX6_lean_30 (by decide) (fun _ => ?_) (fun c => (b2i_x1 h2 c).elim)
  refine E_iload_n dX6_lean_37 rfl ?_
  refine E_i2l dX6_lean_38 ?_
  refine E_lconst (v := 0) dX6_lean_39 (by decide) ?_
  refine E_lconst (v := 1) dX6_lean_40 (by decide) ?_
  refine E_callS (As := [.long (Int32.toInt64 w), .long 0, .long 1]) (l' := [.long (Int32.toInt64 w), .null, .long 0, .null, .long 1, .null]) (st := []) dX6_lean_41 kX6_73 sX6_isIn MX6_isIn rfl rfl (Nat.le_of_ble_eq_true rfl) (FC.use (c_isIn (d + 1) _ _ _) rfl (L2 := [(0, .inr (6, [.ref 1, .ref 5, .ref 7, .ref 10, .ref 18, .ref 26, .ref 31, .ref 35, .ref 37, .int (nI rk)]))]) rfl) (Nat.le_of_ble_eq_true rfl) (fun _ _ hq9 => E_fgo ?_ hq9)
  show E _ _ 44 [.ref 0, .int n, .int t, .int w, .int p, .null, .null, .null, .null, .null, .null] [.int (b2i (inL (Int32.toInt64 w) 0 1))] (hov hp [(0, .inr (6, [.ref 1, .ref 5, .ref 7, .ref 10, .ref 18, .ref 26, .ref 31, .ref 35, .ref 37, .int (nI rk)]))]) _
  refine E_if_eq (tgt := 58) dX6_lean_44 (by decide) (fun c => (b2i_x1 h3 c).elim) (fun _ => ?_)
  refine E_iload dX6_lean_47 rfl ?_
  refine E_i2l dX6_lean_49 ?_
  refine E_lconst (v := 0) dX6_lean_50 (by decide) ?_
  refine E_lconst (v := 1) dX6_lean_51 (by decide) ?_
  refine E_callS (As := [.long (Int32.toInt64 p), .long 0, .long 1]) (l' := [.long (Int32.toInt64 p), .null, .long 0, .null, .long 1, .null]) (st := []) dX6_lean_52 kX6_73 sX6_isIn MX6_isIn rfl rfl (Nat.le_of_ble_eq_true rfl) (FC.use (c_isIn (d + 1) _ _ _) rfl (L2 := [(0, .inr (6, [.ref 1, .ref 5, .ref 7, .ref 10, .ref 18, .ref 26, .ref 31, .ref 35, .ref 37, .int (nI rk)]))]) rfl) (Nat.le_of_ble_eq_true rfl) (fun _ _ hq9 => E_fgo ?_ hq9)
  show E _ _ 55 [.ref 0, .int n, .int t, .int w, .int p, .null, .null, .null, .null, .null, .null] [.int (b2i (inL (Int32.toInt64 p) 0 1))] (hov hp [(0, .inr (6, [.ref 1, .ref 5, .ref 7, .ref 10, .ref 18, .ref 26, .ref 31, .ref 35, .ref 37, .int (nI rk)]))]) _
  refine E_if_ne (tgt := 62) dX6_lean_55 (by decide) (fun c => (b2i_x0 h4 c).elim) (fun _ => ?_)
  refine E_ldc2 dX6_lean_58 qX6_240 ?_
  exact E_lretf dX6_lean_61 rfl rfl rfl

set_option maxHeartbeats 4000000 in
set_option maxRecDepth 20000 in
theorem t_lean_oW (d : Nat) (rk : Nat) (n t w p : Int32) (h1 : inL (Int32.toInt64 n) 0 8 = true) (hw : ¬ w = 1) (h2 : inL (Int32.toInt64 t) 0 10 = true) (h3 : inL (Int32.toInt64 w) 0 1 = false) : FC YX6_lean (d + 2) [.ref 0, .int n, .int t, .int w, .int p, .null, .null, .null, .null, .null, .null] [(0, .inr (6, [.ref 1, .ref 5, .ref 7, .ref 10, .ref 18, .ref 26, .ref 31, .ref 35, .ref 37, .int (nI rk)]))] (some (.long (-1000000000000000002))) [(0, .inr (6, [.ref 1, .ref 5, .ref 7, .ref 10, .ref 18, .ref 26, .ref 31, .ref 35, .ref 37, .int (nI rk)]))] := by
  intro hp
  refine E_iload_n dX6_lean_0 rfl ?_
  refine E_i2l dX6_lean_1 ?_
  refine E_lconst (v := 0) dX6_lean_2 (by decide) ?_
  refine E_ldc2 dX6_lean_3 qX6_177 ?_
  refine E_callS (As := [.long (Int32.toInt64 n), .long 0, .long 8]) (l' := [.long (Int32.toInt64 n), .null, .long 0, .null, .long 8, .null]) (st := []) dX6_lean_6 kX6_73 sX6_isIn MX6_isIn rfl rfl (Nat.le_of_ble_eq_true rfl) (FC.use (c_isIn (d + 1) _ _ _) rfl (L2 := [(0, .inr (6, [.ref 1, .ref 5, .ref 7, .ref 10, .ref 18, .ref 26, .ref 31, .ref 35, .ref 37, .int (nI rk)]))]) rfl) (Nat.le_of_ble_eq_true rfl) (fun _ _ hq9 => E_fgo ?_ hq9)
  show E _ _ 9 [.ref 0, .int n, .int t, .int w, .int p, .null, .null, .null, .null, .null, .null] [.int (b2i (inL (Int32.toInt64 n) 0 8))] (hov hp [(0, .inr (6, [.ref 1, .ref 5, .ref 7, .ref 10, .ref 18, .ref 26, .ref 31, .ref 35, .ref 37, .int (nI rk)]))]) _
  refine E_if_eq (tgt := 33) dX6_lean_9 (by decide) (fun c => (b2i_x1 h1 c).elim) (fun _ => ?_)
  refine E_iload_n dX6_lean_12 rfl ?_
  refine E_i2l dX6_lean_13 ?_
  refine E_iload_n dX6_lean_14 rfl ?_
  refine E_iconst (v := 1) dX6_lean_15 (by decide) ?_
  refine E_icmp_ne (tgt := 23) dX6_lean_16 (by decide) (fun _ => ?_) (fun c => absurd c hw)
  refine E_lconst (v := 0) dX6_lean_23 (by decide) ?_
  refine E_ldc2 dX6_lean_24 qX6_238 ?_
  refine E_callS (As := [.long (Int32.toInt64 t), .long 0, .long 10]) (l' := [.long (Int32.toInt64 t), .null, .long 0, .null, .long 10, .null]) (st := []) dX6_lean_27 kX6_73 sX6_isIn MX6_isIn rfl rfl (Nat.le_of_ble_eq_true rfl) (FC.use (c_isIn (d + 1) _ _ _) rfl (L2 := [(0, .inr (6, [.ref 1, .ref 5, .ref 7, .ref 10, .ref 18, .ref 26, .ref 31, .ref 35, .ref 37, .int (nI rk)]))]) rfl) (Nat.le_of_ble_eq_true rfl) (fun _ _ hq9 => E_fgo ?_ hq9)
  show E _ _ 30 [.ref 0, .int n, .int t, .int w, .int p, .null, .null, .null, .null, .null, .null] [.int (b2i (inL (Int32.toInt64 t) 0 10))] (hov hp [(0, .inr (6, [.ref 1, .ref 5, .ref 7, .ref 10, .ref 18, .ref 26, .ref 31, .ref 35, .ref 37, .int (nI rk)]))]) _
  refine E_if_ne (tgt := 37) dX6_lean_30 (by decide) (fun _ => ?_) (fun c => (b2i_x1 h2 c).elim)
  refine E_iload_n dX6_lean_37 rfl ?_
  refine E_i2l dX6_lean_38 ?_
  refine E_lconst (v := 0) dX6_lean_39 (by decide) ?_
  refine E_lconst (v := 1) dX6_lean_40 (by decide) ?_
  refine E_callS (As := [.long (Int32.toInt64 w), .long 0, .long 1]) (l' := [.long (Int32.toInt64 w), .null, .long 0, .null, .long 1, .null]) (st := []) dX6_lean_41 kX6_73 sX6_isIn MX6_isIn rfl rfl (Nat.le_of_ble_eq_true rfl) (FC.use (c_isIn (d + 1) _ _ _) rfl (L2 := [(0, .inr (6, [.ref 1, .ref 5, .ref 7, .ref 10, .ref 18, .ref 26, .ref 31, .ref 35, .ref 37, .int (nI rk)]))]) rfl) (Nat.le_of_ble_eq_true rfl) (fun _ _ hq9 => E_fgo ?_ hq9)
  show E _ _ 44 [.ref 0, .int n, .int t, .int w, .int p, .null, .null, .null, .null, .null, .null] [.int (b2i (inL (Int32.toInt64 w) 0 1))] (hov hp [(0, .inr (6, [.ref 1, .ref 5, .ref 7, .ref 10, .ref 18, .ref 26, .ref 31, .ref 35, .ref 37, .int (nI rk)]))]) _
  refine E_if_eq (tgt := 58) dX6_lean_44 (by decide) (fun _ => ?_) (fun c => (b2i_x0 h3 c).elim)
  refine E_ldc2 dX6_lean_58 qX6_240 ?_
  exact E_lretf dX6_lean_61 rfl rfl rfl

set_option maxHeartbeats 4000000 in
set_option maxRecDepth 20000 in
theorem t_lean_10 (d : Nat) (rk n t : Nat) (h1 : inL (Int32.toInt64 (nI n)) 0 8 = true) (h2 : inL (Int32.toInt64 (nI t)) 1 10 = true) : FC YX6_lean (d + 2) [.ref 0, .int (nI n), .int (nI t), .int 1, .int 0, .null, .null, .null, .null, .null, .null] [(0, .inr (6, [.ref 1, .ref 5, .ref 7, .ref 10, .ref 18, .ref 26, .ref 31, .ref 35, .ref 37, .int (nI rk)]))] (some (.long (ilt 100 (Int32.toInt64 (nI (t * t))) 0))) [(0, .inr (6, [.ref 1, .ref 5, .ref 7, .ref 10, .ref 18, .ref 26, .ref 31, .ref 35, .ref 37, .int (nI rk)]))] := by
  intro hp
  refine E_iload_n dX6_lean_0 rfl ?_
  refine E_i2l dX6_lean_1 ?_
  refine E_lconst (v := 0) dX6_lean_2 (by decide) ?_
  refine E_ldc2 dX6_lean_3 qX6_177 ?_
  refine E_callS (As := [.long (Int32.toInt64 (nI n)), .long 0, .long 8]) (l' := [.long (Int32.toInt64 (nI n)), .null, .long 0, .null, .long 8, .null]) (st := []) dX6_lean_6 kX6_73 sX6_isIn MX6_isIn rfl rfl (Nat.le_of_ble_eq_true rfl) (FC.use (c_isIn (d + 1) _ _ _) rfl (L2 := [(0, .inr (6, [.ref 1, .ref 5, .ref 7, .ref 10, .ref 18, .ref 26, .ref 31, .ref 35, .ref 37, .int (nI rk)]))]) rfl) (Nat.le_of_ble_eq_true rfl) (fun _ _ hq9 => E_fgo ?_ hq9)
  show E _ _ 9 [.ref 0, .int (nI n), .int (nI t), .int 1, .int 0, .null, .null, .null, .null, .null, .null] [.int (b2i (inL (Int32.toInt64 (nI n)) 0 8))] (hov hp [(0, .inr (6, [.ref 1, .ref 5, .ref 7, .ref 10, .ref 18, .ref 26, .ref 31, .ref 35, .ref 37, .int (nI rk)]))]) _
  refine E_if_eq (tgt := 33) dX6_lean_9 (by decide) (fun c => (b2i_x1 h1 c).elim) (fun _ => ?_)
  refine E_iload_n dX6_lean_12 rfl ?_
  refine E_i2l dX6_lean_13 ?_
  refine E_iload_n dX6_lean_14 rfl ?_
  refine E_iconst (v := 1) dX6_lean_15 (by decide) ?_
  refine E_icmp_ne (tgt := 23) dX6_lean_16 (by decide) (fun c => by first | exact absurd c (by decide) | exact absurd (by decide) c) (fun _ => ?_)
  refine E_lconst (v := 1) dX6_lean_19 (by decide) ?_
  refine E_goto (tgt := 24) dX6_lean_20 (by decide) ?_
  refine E_ldc2 dX6_lean_24 qX6_238 ?_
  refine E_callS (As := [.long (Int32.toInt64 (nI t)), .long 1, .long 10]) (l' := [.long (Int32.toInt64 (nI t)), .null, .long 1, .null, .long 10, .null]) (st := []) dX6_lean_27 kX6_73 sX6_isIn MX6_isIn rfl rfl (Nat.le_of_ble_eq_true rfl) (FC.use (c_isIn (d + 1) _ _ _) rfl (L2 := [(0, .inr (6, [.ref 1, .ref 5, .ref 7, .ref 10, .ref 18, .ref 26, .ref 31, .ref 35, .ref 37, .int (nI rk)]))]) rfl) (Nat.le_of_ble_eq_true rfl) (fun _ _ hq9 => E_fgo ?_ hq9)
  show E _ _ 30 [.ref 0, .int (nI n), .int (nI t), .int 1, .int 0, .null, .null, .null, .null, .null, .null] [.int (b2i (inL (Int32.toInt64 (nI t)) 1 10))] (hov hp [(0, .inr (6, [.ref 1, .ref 5, .ref 7, .ref 10, .ref 18, .ref 26, .ref 31, .ref 35, .ref 37, .int (nI rk)]))]) _
  refine E_if_ne (tgt := 37) dX6_lean_30 (by decide) (fun _ => ?_) (fun c => (b2i_x1 h2 c).elim)
  refine E_iload_n dX6_lean_37 rfl ?_
  refine E_i2l dX6_lean_38 ?_
  refine E_lconst (v := 0) dX6_lean_39 (by decide) ?_
  refine E_lconst (v := 1) dX6_lean_40 (by decide) ?_
  refine E_callS (As := [.long (Int32.toInt64 1), .long 0, .long 1]) (l' := [.long (Int32.toInt64 1), .null, .long 0, .null, .long 1, .null]) (st := []) dX6_lean_41 kX6_73 sX6_isIn MX6_isIn rfl rfl (Nat.le_of_ble_eq_true rfl) (FC.use (c_isIn (d + 1) _ _ _) rfl (L2 := [(0, .inr (6, [.ref 1, .ref 5, .ref 7, .ref 10, .ref 18, .ref 26, .ref 31, .ref 35, .ref 37, .int (nI rk)]))]) rfl) (Nat.le_of_ble_eq_true rfl) (fun _ _ hq9 => E_fgo ?_ hq9)
  show E _ _ 44 [.ref 0, .int (nI n), .int (nI t), .int 1, .int 0, .null, .null, .null, .null, .null, .null] [.int (b2i (inL (Int32.toInt64 1) 0 1))] (hov hp [(0, .inr (6, [.ref 1, .ref 5, .ref 7, .ref 10, .ref 18, .ref 26, .ref 31, .ref 35, .ref 37, .int (nI rk)]))]) _
  refine E_if_eq (tgt := 58) dX6_lean_44 (by decide) (fun c => (b2i_x1 (by decide) c).elim) (fun _ => ?_)
  refine E_iload dX6_lean_47 rfl ?_
  refine E_i2l dX6_lean_49 ?_
  refine E_lconst (v := 0) dX6_lean_50 (by decide) ?_
  refine E_lconst (v := 1) dX6_lean_51 (by decide) ?_
  refine E_callS (As := [.long (Int32.toInt64 0), .long 0, .long 1]) (l' := [.long (Int32.toInt64 0), .null, .long 0, .null, .long 1, .null]) (st := []) dX6_lean_52 kX6_73 sX6_isIn MX6_isIn rfl rfl (Nat.le_of_ble_eq_true rfl) (FC.use (c_isIn (d + 1) _ _ _) rfl (L2 := [(0, .inr (6, [.ref 1, .ref 5, .ref 7, .ref 10, .ref 18, .ref 26, .ref 31, .ref 35, .ref 37, .int (nI rk)]))]) rfl) (Nat.le_of_ble_eq_true rfl) (fun _ _ hq9 => E_fgo ?_ hq9)
  show E _ _ 55 [.ref 0, .int (nI n), .int (nI t), .int 1, .int 0, .null, .null, .null, .null, .null, .null] [.int (b2i (inL (Int32.toInt64 0) 0 1))] (hov hp [(0, .inr (6, [.ref 1, .ref 5, .ref 7, .ref 10, .ref 18, .ref 26, .ref 31, .ref 35, .ref 37, .int (nI rk)]))]) _
  refine E_if_ne (tgt := 62) dX6_lean_55 (by decide) (fun _ => ?_) (fun c => (b2i_x1 (by decide) c).elim)
  refine E_iload_n dX6_lean_62 rfl ?_
  refine E_iload_n dX6_lean_63 rfl ?_
  refine E_imul dX6_lean_64 ?_
  refine E_eqi (y := nI (t * t)) (pk_mul _ _) ?_
  refine E_istore (l2 := [.ref 0, .int (nI n), .int (nI t), .int 1, .int 0, .int (nI (t * t)), .null, .null, .null, .null, .null]) dX6_lean_65 (by decide) rfl ?_
  refine E_iload_n dX6_lean_67 rfl ?_
  refine E_iconst (v := 1) dX6_lean_68 (by decide) ?_
  refine E_icmp_ne (tgt := 84) dX6_lean_69 (by decide) (fun c => by first | exact absurd c (by decide) | exact absurd (by decide) c) (fun _ => ?_)
  refine E_ldc2 dX6_lean_72 qX6_242 ?_
  refine E_iload dX6_lean_75 rfl ?_
  refine E_i2l dX6_lean_77 ?_
  refine E_iload dX6_lean_78 rfl ?_
  refine E_callS (As := [.long 100, .long (Int32.toInt64 (nI (t * t))), .int 0]) (l' := [.long 100, .null, .long (Int32.toInt64 (nI (t * t))), .null, .int 0, .null, .null, .null, .null]) (st := []) dX6_lean_80 kX6_244 sX6_inLowestTerms MX6_inLowestTerms rfl rfl (Nat.le_of_ble_eq_true rfl) (FC.use (c_ilt d _ _ _) rfl (L2 := [(0, .inr (6, [.ref 1, .ref 5, .ref 7, .ref 10, .ref 18, .ref 26, .ref 31, .ref 35, .ref 37, .int (nI rk)]))]) rfl) (Nat.le_of_ble_eq_true rfl) (fun _ _ hq9 => E_fgo ?_ hq9)
  show E _ _ 83 [.ref 0, .int (nI n), .int (nI t), .int 1, .int 0, .int (nI (t * t)), .null, .null, .null, .null, .null] [.long (ilt 100 (Int32.toInt64 (nI (t * t))) 0)] (hov hp [(0, .inr (6, [.ref 1, .ref 5, .ref 7, .ref 10, .ref 18, .ref 26, .ref 31, .ref 35, .ref 37, .int (nI rk)]))]) _
  exact E_lretf dX6_lean_83 rfl rfl rfl

set_option maxHeartbeats 4000000 in
set_option maxRecDepth 20000 in
theorem t_lean_00 (d : Nat) (rk n t : Nat) (hn : n ≤ 8) (ht : t ≤ 10) (h1 : inL (Int32.toInt64 (nI n)) 0 8 = true) (h2 : inL (Int32.toInt64 (nI t)) 0 10 = true) : FC YX6_lean (d + 2) [.ref 0, .int (nI n), .int (nI t), .int 0, .int 0, .null, .null, .null, .null, .null, .null] [(0, .inr (6, [.ref 1, .ref 5, .ref 7, .ref 10, .ref 18, .ref 26, .ref 31, .ref 35, .ref 37, .int (nI rk)]))] (some (.long (ilt (pwL (Int32.toInt64 (100 - nI (t * t))) n) (pwL 100 n) 0))) [(0, .inr (6, [.ref 1, .ref 5, .ref 7, .ref 10, .ref 18, .ref 26, .ref 31, .ref 35, .ref 37, .int (nI rk)]))] := by
  intro hp
  refine E_iload_n dX6_lean_0 rfl ?_
  refine E_i2l dX6_lean_1 ?_
  refine E_lconst (v := 0) dX6_lean_2 (by decide) ?_
  refine E_ldc2 dX6_lean_3 qX6_177 ?_
  refine E_callS (As := [.long (Int32.toInt64 (nI n)), .long 0, .long 8]) (l' := [.long (Int32.toInt64 (nI n)), .null, .long 0, .null, .long 8, .null]) (st := []) dX6_lean_6 kX6_73 sX6_isIn MX6_isIn rfl rfl (Nat.le_of_ble_eq_true rfl) (FC.use (c_isIn (d + 1) _ _ _) rfl (L2 := [(0, .inr (6, [.ref 1, .ref 5, .ref 7, .ref 10, .ref 18, .ref 26, .ref 31, .ref 35, .ref 37, .int (nI rk)]))]) rfl) (Nat.le_of_ble_eq_true rfl) (fun _ _ hq9 => E_fgo ?_ hq9)
  show E _ _ 9 [.ref 0, .int (nI n), .int (nI t), .int 0, .int 0, .null, .null, .null, .null, .null, .null] [.int (b2i (inL (Int32.toInt64 (nI n)) 0 8))] (hov hp [(0, .inr (6, [.ref 1, .ref 5, .ref 7, .ref 10, .ref 18, .ref 26, .ref 31, .ref 35, .ref 37, .int (nI rk)]))]) _
  refine E_if_eq (tgt := 33) dX6_lean_9 (by decide) (fun c => (b2i_x1 h1 c).elim) (fun _ => ?_)
  refine E_iload_n dX6_lean_12 rfl ?_
  refine E_i2l dX6_lean_13 ?_
  refine E_iload_n dX6_lean_14 rfl ?_
  refine E_iconst (v := 1) dX6_lean_15 (by decide) ?_
  refine E_icmp_ne (tgt := 23) dX6_lean_16 (by decide) (fun _ => ?_) (fun c => by first | exact absurd c (by decide) | exact absurd (by decide) c)
  refine E_lconst (v := 0) dX6_lean_23 (by decide) ?_
  refine E_ldc2 dX6_lean_24 qX6_238 ?_
  refine E_callS (As := [.long (Int32.toInt64 (nI t)), .long 0, .long 10]) (l' := [.long (Int32.toInt64 (nI t)), .null, .long 0, .null, .long 10, .null]) (st := []) dX6_lean_27 kX6_73 sX6_isIn MX6_isIn rfl rfl (Nat.le_of_ble_eq_true rfl) (FC.use (c_isIn (d + 1) _ _ _) rfl (L2 := [(0, .inr (6, [.ref 1, .ref 5, .ref 7, .ref 10, .ref 18, .ref 26, .ref 31, .ref 35, .ref 37, .int (nI rk)]))]) rfl) (Nat.le_of_ble_eq_true rfl) (fun _ _ hq9 => E_fgo ?_ hq9)
  show E _ _ 30 [.ref 0, .int (nI n), .int (nI t), .int 0, .int 0, .null, .null, .null, .null, .null, .null] [.int (b2i (inL (Int32.toInt64 (nI t)) 0 10))] (hov hp [(0, .inr (6, [.ref 1, .ref 5, .ref 7, .ref 10, .ref 18, .ref 26, .ref 31, .ref 35, .ref 37, .int (nI rk)]))]) _
  refine E_if_ne (tgt := 37) dX6_lean_30 (by decide) (fun _ => ?_) (fun c => (b2i_x1 h2 c).elim)
  refine E_iload_n dX6_lean_37 rfl ?_
  refine E_i2l dX6_lean_38 ?_
  refine E_lconst (v := 0) dX6_lean_39 (by decide) ?_
  refine E_lconst (v := 1) dX6_lean_40 (by decide) ?_
  refine E_callS (As := [.long (Int32.toInt64 0), .long 0, .long 1]) (l' := [.long (Int32.toInt64 0), .null, .long 0, .null, .long 1, .null]) (st := []) dX6_lean_41 kX6_73 sX6_isIn MX6_isIn rfl rfl (Nat.le_of_ble_eq_true rfl) (FC.use (c_isIn (d + 1) _ _ _) rfl (L2 := [(0, .inr (6, [.ref 1, .ref 5, .ref 7, .ref 10, .ref 18, .ref 26, .ref 31, .ref 35, .ref 37, .int (nI rk)]))]) rfl) (Nat.le_of_ble_eq_true rfl) (fun _ _ hq9 => E_fgo ?_ hq9)
  show E _ _ 44 [.ref 0, .int (nI n), .int (nI t), .int 0, .int 0, .null, .null, .null, .null, .null, .null] [.int (b2i (inL (Int32.toInt64 0) 0 1))] (hov hp [(0, .inr (6, [.ref 1, .ref 5, .ref 7, .ref 10, .ref 18, .ref 26, .ref 31, .ref 35, .ref 37, .int (nI rk)]))]) _
  refine E_if_eq (tgt := 58) dX6_lean_44 (by decide) (fun c => (b2i_x1 (by decide) c).elim) (fun _ => ?_)
  refine E_iload dX6_lean_47 rfl ?_
  refine E_i2l dX6_lean_49 ?_
  refine E_lconst (v := 0) dX6_lean_50 (by decide) ?_
  refine E_lconst (v := 1) dX6_lean_51 (by decide) ?_
  refine E_callS (As := [.long (Int32.toInt64 0), .long 0, .long 1]) (l' := [.long (Int32.toInt64 0), .null, .long 0, .null, .long 1, .null]) (st := []) dX6_lean_52 kX6_73 sX6_isIn MX6_isIn rfl rfl (Nat.le_of_ble_eq_true rfl) (FC.use (c_isIn (d + 1) _ _ _) rfl (L2 := [(0, .inr (6, [.ref 1, .ref 5, .ref 7, .ref 10, .ref 18, .ref 26, .ref 31, .ref 35, .ref 37, .int (nI rk)]))]) rfl) (Nat.le_of_ble_eq_true rfl) (fun _ _ hq9 => E_fgo ?_ hq9)
  show E _ _ 55 [.ref 0, .int (nI n), .int (nI t), .int 0, .int 0, .null, .null, .null, .null, .null, .null] [.int (b2i (inL (Int32.toInt64 0) 0 1))] (hov hp [(0, .inr (6, [.ref 1, .ref 5, .ref 7, .ref 10, .ref 18, .ref 26, .ref 31, .ref 35, .ref 37, .int (nI rk)]))]) _
  refine E_if_ne (tgt := 62) dX6_lean_55 (by decide) (fun _ => ?_) (fun c => (b2i_x1 (by decide) c).elim)
  refine E_iload_n dX6_lean_62 rfl ?_
  refine E_iload_n dX6_lean_63 rfl ?_
  refine E_imul dX6_lean_64 ?_
  refine E_eqi (y := nI (t * t)) (pk_mul _ _) ?_
  refine E_istore (l2 := [.ref 0, .int (nI n), .int (nI t), .int 0, .int 0, .int (nI (t * t)), .null, .null, .null, .null, .null]) dX6_lean_65 (by decide) rfl ?_
  refine E_iload_n dX6_lean_67 rfl ?_
  refine E_iconst (v := 1) dX6_lean_68 (by decide) ?_
  refine E_icmp_ne (tgt := 84) dX6_lean_69 (by decide) (fun _ => ?_) (fun c => by first | exact absurd c (by decide) | exact absurd (by decide) c)
  refine E_lconst (v := 1) dX6_lean_84 (by decide) ?_
  refine E_lstore (l2 := [.ref 0, .int (nI n), .int (nI t), .int 0, .int 0, .int (nI (t * t)), .long 1, .null, .null, .null, .null]) dX6_lean_85 (by decide) rfl ?_
  refine E_lconst (v := 1) dX6_lean_87 (by decide) ?_
  refine E_lstore (l2 := [.ref 0, .int (nI n), .int (nI t), .int 0, .int 0, .int (nI (t * t)), .long 1, .null, .long 1, .null, .null]) dX6_lean_88 (by decide) rfl ?_
  refine E_iconst (v := 0) dX6_lean_90 (by decide) ?_
  refine E_istore (l2 := [.ref 0, .int (nI n), .int (nI t), .int 0, .int 0, .int (nI (t * t)), .long 1, .null, .long 1, .null, .int 0]) dX6_lean_91 (by decide) rfl ?_
  have L : ∀ i, i ≤ n → E YX6_lean (d + 2) 93 [.ref 0, .int (nI n), .int (nI t), .int 0, .int 0, .int (nI (t * t)), .long (pwL (Int32.toInt64 (100 - nI (t * t))) i), .null, .long (pwL 100 i), .null, .int (nI i)] [] (hov hp [(0, .inr (6, [.ref 1, .ref 5, .ref 7, .ref 10, .ref 18, .ref 26, .ref 31, .ref 35, .ref 37, .int (nI rk)]))]) (fun v h' => v = some (.long (ilt (pwL (Int32.toInt64 (100 - nI (t * t))) n) (pwL 100 n) 0)) ∧ h' = hov hp [(0, .inr (6, [.ref 1, .ref 5, .ref 7, .ref 10, .ref 18, .ref 26, .ref 31, .ref 35, .ref 37, .int (nI rk)]))]) := by
    refine down n ?_ ?_
    · refine E_iload dX6_lean_93 rfl ?_
      refine E_iload_n dX6_lean_95 rfl ?_
      refine E_icmp_ge (tgt := 124) dX6_lean_96 (by decide) (fun _ => ?_) (fun c => absurd (nI_le (Nat.le_refl _) (by omega)) c)
      refine E_lload dX6_lean_124 rfl ?_
      refine E_lload dX6_lean_126 rfl ?_
      refine E_iload dX6_lean_128 rfl ?_
      refine E_callS (As := [.long (pwL (Int32.toInt64 (100 - nI (t * t))) n), .long (pwL 100 n), .int 0]) (l' := [.long (pwL (Int32.toInt64 (100 - nI (t * t))) n), .null, .long (pwL 100 n), .null, .int 0, .null, .null, .null, .null]) (st := []) dX6_lean_130 kX6_244 sX6_inLowestTerms MX6_inLowestTerms rfl rfl (Nat.le_of_ble_eq_true rfl) (FC.use (c_ilt d _ _ _) rfl (L2 := [(0, .inr (6, [.ref 1, .ref 5, .ref 7, .ref 10, .ref 18, .ref 26, .ref 31, .ref 35, .ref 37, .int (nI rk)]))]) rfl) (Nat.le_of_ble_eq_true rfl) (fun _ _ hq9 => E_fgo ?_ hq9)
      show E _ _ 133 [.ref 0, .int (nI n), .int (nI t), .int 0, .int 0, .int (nI (t * t)), .long (pwL (Int32.toInt64 (100 - nI (t * t))) n), .null, .long (pwL 100 n), .null, .int (nI n)] [.long (ilt (pwL (Int32.toInt64 (100 - nI (t * t))) n) (pwL 100 n) 0)] (hov hp [(0, .inr (6, [.ref 1, .ref 5, .ref 7, .ref 10, .ref 18, .ref 26, .ref 31, .ref 35, .ref 37, .int (nI rk)]))]) _
      exact E_lretf dX6_lean_133 rfl rfl rfl
    · intro i hi ih
      refine E_iload dX6_lean_93 rfl ?_
      refine E_iload_n dX6_lean_95 rfl ?_
      refine E_icmp_ge (tgt := 124) dX6_lean_96 (by decide) (fun c => absurd c (nI_ge hi (by omega))) (fun _ => ?_)
      refine E_lload dX6_lean_99 rfl ?_
      refine E_bipush (v := 100) dX6_lean_101 (by decide) ?_
      refine E_iload dX6_lean_103 rfl ?_
      refine E_isub dX6_lean_105 ?_
      refine E_i2l dX6_lean_106 ?_
      refine E_lmul dX6_lean_107 ?_
      refine E_lstore (l2 := [.ref 0, .int (nI n), .int (nI t), .int 0, .int 0, .int (nI (t * t)), .long ((pwL (Int32.toInt64 (100 - nI (t * t))) i) * (Int32.toInt64 (100 - (nI (t * t))))), .null, .long (pwL 100 i), .null, .int (nI i)]) dX6_lean_108 (by decide) rfl ?_
      refine E_lload dX6_lean_110 rfl ?_
      refine E_ldc2 dX6_lean_112 qX6_242 ?_
      refine E_lmul dX6_lean_115 ?_
      refine E_lstore (l2 := [.ref 0, .int (nI n), .int (nI t), .int 0, .int 0, .int (nI (t * t)), .long ((pwL (Int32.toInt64 (100 - nI (t * t))) i) * (Int32.toInt64 (100 - (nI (t * t))))), .null, .long ((pwL 100 i) * 100), .null, .int (nI i)]) dX6_lean_116 (by decide) rfl ?_
      refine E_iinc (y := nI (i + 1)) (l2 := [.ref 0, .int (nI n), .int (nI t), .int 0, .int 0, .int (nI (t * t)), .long ((pwL (Int32.toInt64 (100 - nI (t * t))) i) * (Int32.toInt64 (100 - (nI (t * t))))), .null, .long ((pwL 100 i) * 100), .null, .int (nI (i + 1))]) dX6_lean_118 rfl (nI_1 _) (by decide) rfl ?_
      refine E_goto (tgt := 93) dX6_lean_121 (by decide) ?_
      exact ih
  exact L 0 (by omega)

set_option maxHeartbeats 4000000 in
set_option maxRecDepth 20000 in
theorem t_lean_11 (d : Nat) (rk n t : Nat) (h1 : inL (Int32.toInt64 (nI n)) 0 8 = true) (h2 : inL (Int32.toInt64 (nI t)) 1 10 = true) : FC YX6_lean (d + 2) [.ref 0, .int (nI n), .int (nI t), .int 1, .int 1, .null, .null, .null, .null, .null, .null] [(0, .inr (6, [.ref 1, .ref 5, .ref 7, .ref 10, .ref 18, .ref 26, .ref 31, .ref 35, .ref 37, .int (nI rk)]))] (some (.long (ilt 100 (Int32.toInt64 (nI (t * t))) 1))) [(0, .inr (6, [.ref 1, .ref 5, .ref 7, .ref 10, .ref 18, .ref 26, .ref 31, .ref 35, .ref 37, .int (nI rk)]))] := by
  intro hp
  refine E_iload_n dX6_lean_0 rfl ?_
  refine E_i2l dX6_lean_1 ?_
  refine E_lconst (v := 0) dX6_lean_2 (by decide) ?_
  refine E_ldc2 dX6_lean_3 qX6_177 ?_
  refine E_callS (As := [.long (Int32.toInt64 (nI n)), .long 0, .long 8]) (l' := [.long (Int32.toInt64 (nI n)), .null, .long 0, .null, .long 8, .null]) (st := []) dX6_lean_6 kX6_73 sX6_isIn MX6_isIn rfl rfl (Nat.le_of_ble_eq_true rfl) (FC.use (c_isIn (d + 1) _ _ _) rfl (L2 := [(0, .inr (6, [.ref 1, .ref 5, .ref 7, .ref 10, .ref 18, .ref 26, .ref 31, .ref 35, .ref 37, .int (nI rk)]))]) rfl) (Nat.le_of_ble_eq_true rfl) (fun _ _ hq9 => E_fgo ?_ hq9)
  show E _ _ 9 [.ref 0, .int (nI n), .int (nI t), .int 1, .int 1, .null, .null, .null, .null, .null, .null] [.int (b2i (inL (Int32.toInt64 (nI n)) 0 8))] (hov hp [(0, .inr (6, [.ref 1, .ref 5, .ref 7, .ref 10, .ref 18, .ref 26, .ref 31, .ref 35, .ref 37, .int (nI rk)]))]) _
  refine E_if_eq (tgt := 33) dX6_lean_9 (by decide) (fun c => (b2i_x1 h1 c).elim) (fun _ => ?_)
  refine E_iload_n dX6_lean_12 rfl ?_
  refine E_i2l dX6_lean_13 ?_
  refine E_iload_n dX6_lean_14 rfl ?_
  refine E_iconst (v := 1) dX6_lean_15 (by decide) ?_
  refine E_icmp_ne (tgt := 23) dX6_lean_16 (by decide) (fun c => by first | exact absurd c (by decide) | exact absurd (by decide) c) (fun _ => ?_)
  refine E_lconst (v := 1) dX6_lean_19 (by decide) ?_
  refine E_goto (tgt := 24) dX6_lean_20 (by decide) ?_
  refine E_ldc2 dX6_lean_24 qX6_238 ?_
  refine E_callS (As := [.long (Int32.toInt64 (nI t)), .long 1, .long 10]) (l' := [.long (Int32.toInt64 (nI t)), .null, .long 1, .null, .long 10, .null]) (st := []) dX6_lean_27 kX6_73 sX6_isIn MX6_isIn rfl rfl (Nat.le_of_ble_eq_true rfl) (FC.use (c_isIn (d + 1) _ _ _) rfl (L2 := [(0, .inr (6, [.ref 1, .ref 5, .ref 7, .ref 10, .ref 18, .ref 26, .ref 31, .ref 35, .ref 37, .int (nI rk)]))]) rfl) (Nat.le_of_ble_eq_true rfl) (fun _ _ hq9 => E_fgo ?_ hq9)
  show E _ _ 30 [.ref 0, .int (nI n), .int (nI t), .int 1, .int 1, .null, .null, .null, .null, .null, .null] [.int (b2i (inL (Int32.toInt64 (nI t)) 1 10))] (hov hp [(0, .inr (6, [.ref 1, .ref 5, .ref 7, .ref 10, .ref 18, .ref 26, .ref 31, .ref 35, .ref 37, .int (nI rk)]))]) _
  refine E_if_ne (tgt := 37) dX6_lean_30 (by decide) (fun _ => ?_) (fun c => (b2i_x1 h2 c).elim)
  refine E_iload_n dX6_lean_37 rfl ?_
  refine E_i2l dX6_lean_38 ?_
  refine E_lconst (v := 0) dX6_lean_39 (by decide) ?_
  refine E_lconst (v := 1) dX6_lean_40 (by decide) ?_
  refine E_callS (As := [.long (Int32.toInt64 1), .long 0, .long 1]) (l' := [.long (Int32.toInt64 1), .null, .long 0, .null, .long 1, .null]) (st := []) dX6_lean_41 kX6_73 sX6_isIn MX6_isIn rfl rfl (Nat.le_of_ble_eq_true rfl) (FC.use (c_isIn (d + 1) _ _ _) rfl (L2 := [(0, .inr (6, [.ref 1, .ref 5, .ref 7, .ref 10, .ref 18, .ref 26, .ref 31, .ref 35, .ref 37, .int (nI rk)]))]) rfl) (Nat.le_of_ble_eq_true rfl) (fun _ _ hq9 => E_fgo ?_ hq9)
  show E _ _ 44 [.ref 0, .int (nI n), .int (nI t), .int 1, .int 1, .null, .null, .null, .null, .null, .null] [.int (b2i (inL (Int32.toInt64 1) 0 1))] (hov hp [(0, .inr (6, [.ref 1, .ref 5, .ref 7, .ref 10, .ref 18, .ref 26, .ref 31, .ref 35, .ref 37, .int (nI rk)]))]) _
  refine E_if_eq (tgt := 58) dX6_lean_44 (by decide) (fun c => (b2i_x1 (by decide) c).elim) (fun _ => ?_)
  refine E_iload dX6_lean_47 rfl ?_
  refine E_i2l dX6_lean_49 ?_
  refine E_lconst (v := 0) dX6_lean_50 (by decide) ?_
  refine E_lconst (v := 1) dX6_lean_51 (by decide) ?_
  refine E_callS (As := [.long (Int32.toInt64 1), .long 0, .long 1]) (l' := [.long (Int32.toInt64 1), .null, .long 0, .null, .long 1, .null]) (st := []) dX6_lean_52 kX6_73 sX6_isIn MX6_isIn rfl rfl (Nat.le_of_ble_eq_true rfl) (FC.use (c_isIn (d + 1) _ _ _) rfl (L2 := [(0, .inr (6, [.ref 1, .ref 5, .ref 7, .ref 10, .ref 18, .ref 26, .ref 31, .ref 35, .ref 37, .int (nI rk)]))]) rfl) (Nat.le_of_ble_eq_true rfl) (fun _ _ hq9 => E_fgo ?_ hq9)
  show E _ _ 55 [.ref 0, .int (nI n), .int (nI t), .int 1, .int 1, .null, .null, .null, .null, .null, .null] [.int (b2i (inL (Int32.toInt64 1) 0 1))] (hov hp [(0, .inr (6, [.ref 1, .ref 5, .ref 7, .ref 10, .ref 18, .ref 26, .ref 31, .ref 35, .ref 37, .int (nI rk)]))]) _
  refine E_if_ne (tgt := 62) dX6_lean_55 (by decide) (fun _ => ?_) (fun c => (b2i_x1 (by decide) c).elim)
  refine E_iload_n dX6_lean_62 rfl ?_
  refine E_iload_n dX6_lean_63 rfl ?_
  refine E_imul dX6_lean_64 ?_
  refine E_eqi (y := nI (t * t)) (pk_mul _ _) ?_
  refine E_istore (l2 := [.ref 0, .int (nI n), .int (nI t), .int 1, .int 1, .int (nI (t * t)), .null, .null, .null, .null, .null]) dX6_lean_65 (by decide) rfl ?_
  refine E_iload_n dX6_lean_67 rfl ?_
  refine E_iconst (v := 1) dX6_lean_68 (by decide) ?_
  refine E_icmp_ne (tgt := 84) dX6_lean_69 (by decide) (fun c => by first | exact absurd c (by decide) | exact absurd (by decide) c) (fun _ => ?_)
  refine E_ldc2 dX6_lean_72 qX6_242 ?_
  refine E_iload dX6_lean_75 rfl ?_
  refine E_i2l dX6_lean_77 ?_
  refine E_iload dX6_lean_78 rfl ?_
  refine E_callS (As := [.long 100, .long (Int32.toInt64 (nI (t * t))), .int 1]) (l' := [.long 100, .null, .long (Int32.toInt64 (nI (t * t))), .null, .int 1, .null, .null, .null, .null]) (st := []) dX6_lean_80 kX6_244 sX6_inLowestTerms MX6_inLowestTerms rfl rfl (Nat.le_of_ble_eq_true rfl) (FC.use (c_ilt d _ _ _) rfl (L2 := [(0, .inr (6, [.ref 1, .ref 5, .ref 7, .ref 10, .ref 18, .ref 26, .ref 31, .ref 35, .ref 37, .int (nI rk)]))]) rfl) (Nat.le_of_ble_eq_true rfl) (fun _ _ hq9 => E_fgo ?_ hq9)
  show E _ _ 83 [.ref 0, .int (nI n), .int (nI t), .int 1, .int 1, .int (nI (t * t)), .null, .null, .null, .null, .null] [.long (ilt 100 (Int32.toInt64 (nI (t * t))) 1)] (hov hp [(0, .inr (6, [.ref 1, .ref 5, .ref 7, .ref 10, .ref 18, .ref 26, .ref 31, .ref 35, .ref 37, .int (nI rk)]))]) _
  exact E_lretf dX6_lean_83 rfl rfl rfl

set_option maxHeartbeats 4000000 in
set_option maxRecDepth 20000 in
theorem t_lean_01 (d : Nat) (rk n t : Nat) (hn : n ≤ 8) (ht : t ≤ 10) (h1 : inL (Int32.toInt64 (nI n)) 0 8 = true) (h2 : inL (Int32.toInt64 (nI t)) 0 10 = true) : FC YX6_lean (d + 2) [.ref 0, .int (nI n), .int (nI t), .int 0, .int 1, .null, .null, .null, .null, .null, .null] [(0, .inr (6, [.ref 1, .ref 5, .ref 7, .ref 10, .ref 18, .ref 26, .ref 31, .ref 35, .ref 37, .int (nI rk)]))] (some (.long (ilt (pwL (Int32.toInt64 (100 - nI (t * t))) n) (pwL 100 n) 1))) [(0, .inr (6, [.ref 1, .ref 5, .ref 7, .ref 10, .ref 18, .ref 26, .ref 31, .ref 35, .ref 37, .int (nI rk)]))] := by
  intro hp
  refine E_iload_n dX6_lean_0 rfl ?_
  refine E_i2l dX6_lean_1 ?_
  refine E_lconst (v := 0) dX6_lean_2 (by decide) ?_
  refine E_ldc2 dX6_lean_3 qX6_177 ?_
  refine E_callS (As := [.long (Int32.toInt64 (nI n)), .long 0, .long 8]) (l' := [.long (Int32.toInt64 (nI n)), .null, .long 0, .null, .long 8, .null]) (st := []) dX6_lean_6 kX6_73 sX6_isIn MX6_isIn rfl rfl (Nat.le_of_ble_eq_true rfl) (FC.use (c_isIn (d + 1) _ _ _) rfl (L2 := [(0, .inr (6, [.ref 1, .ref 5, .ref 7, .ref 10, .ref 18, .ref 26, .ref 31, .ref 35, .ref 37, .int (nI rk)]))]) rfl) (Nat.le_of_ble_eq_true rfl) (fun _ _ hq9 => E_fgo ?_ hq9)
  show E _ _ 9 [.ref 0, .int (nI n), .int (nI t), .int 0, .int 1, .null, .null, .null, .null, .null, .null] [.int (b2i (inL (Int32.toInt64 (nI n)) 0 8))] (hov hp [(0, .inr (6, [.ref 1, .ref 5, .ref 7, .ref 10, .ref 18, .ref 26, .ref 31, .ref 35, .ref 37, .int (nI rk)]))]) _
  refine E_if_eq (tgt := 33) dX6_lean_9 (by decide) (fun c => (b2i_x1 h1 c).elim) (fun _ => ?_)
  refine E_iload_n dX6_lean_12 rfl ?_
  refine E_i2l dX6_lean_13 ?_
  refine E_iload_n dX6_lean_14 rfl ?_
  refine E_iconst (v := 1) dX6_lean_15 (by decide) ?_
  refine E_icmp_ne (tgt := 23) dX6_lean_16 (by decide) (fun _ => ?_) (fun c => by first | exact absurd c (by decide) | exact absurd (by decide) c)
  refine E_lconst (v := 0) dX6_lean_23 (by decide) ?_
  refine E_ldc2 dX6_lean_24 qX6_238 ?_
  refine E_callS (As := [.long (Int32.toInt64 (nI t)), .long 0, .long 10]) (l' := [.long (Int32.toInt64 (nI t)), .null, .long 0, .null, .long 10, .null]) (st := []) dX6_lean_27 kX6_73 sX6_isIn MX6_isIn rfl rfl (Nat.le_of_ble_eq_true rfl) (FC.use (c_isIn (d + 1) _ _ _) rfl (L2 := [(0, .inr (6, [.ref 1, .ref 5, .ref 7, .ref 10, .ref 18, .ref 26, .ref 31, .ref 35, .ref 37, .int (nI rk)]))]) rfl) (Nat.le_of_ble_eq_true rfl) (fun _ _ hq9 => E_fgo ?_ hq9)
  show E _ _ 30 [.ref 0, .int (nI n), .int (nI t), .int 0, .int 1, .null, .null, .null, .null, .null, .null] [.int (b2i (inL (Int32.toInt64 (nI t)) 0 10))] (hov hp [(0, .inr (6, [.ref 1, .ref 5, .ref 7, .ref 10, .ref 18, .ref 26, .ref 31, .ref 35, .ref 37, .int (nI rk)]))]) _
  refine E_if_ne (tgt := 37) dX6_lean_30 (by decide) (fun _ => ?_) (fun c => (b2i_x1 h2 c).elim)
  refine E_iload_n dX6_lean_37 rfl ?_
  refine E_i2l dX6_lean_38 ?_
  refine E_lconst (v := 0) dX6_lean_39 (by decide) ?_
  refine E_lconst (v := 1) dX6_lean_40 (by decide) ?_
  refine E_callS (As := [.long (Int32.toInt64 0), .long 0, .long 1]) (l' := [.long (Int32.toInt64 0), .null, .long 0, .null, .long 1, .null]) (st := []) dX6_lean_41 kX6_73 sX6_isIn MX6_isIn rfl rfl (Nat.le_of_ble_eq_true rfl) (FC.use (c_isIn (d + 1) _ _ _) rfl (L2 := [(0, .inr (6, [.ref 1, .ref 5, .ref 7, .ref 10, .ref 18, .ref 26, .ref 31, .ref 35, .ref 37, .int (nI rk)]))]) rfl) (Nat.le_of_ble_eq_true rfl) (fun _ _ hq9 => E_fgo ?_ hq9)
  show E _ _ 44 [.ref 0, .int (nI n), .int (nI t), .int 0, .int 1, .null, .null, .null, .null, .null, .null] [.int (b2i (inL (Int32.toInt64 0) 0 1))] (hov hp [(0, .inr (6, [.ref 1, .ref 5, .ref 7, .ref 10, .ref 18, .ref 26, .ref 31, .ref 35, .ref 37, .int (nI rk)]))]) _
  refine E_if_eq (tgt := 58) dX6_lean_44 (by decide) (fun c => (b2i_x1 (by decide) c).elim) (fun _ => ?_)
  refine E_iload dX6_lean_47 rfl ?_
  refine E_i2l dX6_lean_49 ?_
  refine E_lconst (v := 0) dX6_lean_50 (by decide) ?_
  refine E_lconst (v := 1) dX6_lean_51 (by decide) ?_
  refine E_callS (As := [.long (Int32.toInt64 1), .long 0, .long 1]) (l' := [.long (Int32.toInt64 1), .null, .long 0, .null, .long 1, .null]) (st := []) dX6_lean_52 kX6_73 sX6_isIn MX6_isIn rfl rfl (Nat.le_of_ble_eq_true rfl) (FC.use (c_isIn (d + 1) _ _ _) rfl (L2 := [(0, .inr (6, [.ref 1, .ref 5, .ref 7, .ref 10, .ref 18, .ref 26, .ref 31, .ref 35, .ref 37, .int (nI rk)]))]) rfl) (Nat.le_of_ble_eq_true rfl) (fun _ _ hq9 => E_fgo ?_ hq9)
  show E _ _ 55 [.ref 0, .int (nI n), .int (nI t), .int 0, .int 1, .null, .null, .null, .null, .null, .null] [.int (b2i (inL (Int32.toInt64 1) 0 1))] (hov hp [(0, .inr (6, [.ref 1, .ref 5, .ref 7, .ref 10, .ref 18, .ref 26, .ref 31, .ref 35, .ref 37, .int (nI rk)]))]) _
  refine E_if_ne (tgt := 62) dX6_lean_55 (by decide) (fun _ => ?_) (fun c => (b2i_x1 (by decide) c).elim)
  refine E_iload_n dX6_lean_62 rfl ?_
  refine E_iload_n dX6_lean_63 rfl ?_
  refine E_imul dX6_lean_64 ?_
  refine E_eqi (y := nI (t * t)) (pk_mul _ _) ?_
  refine E_istore (l2 := [.ref 0, .int (nI n), .int (nI t), .int 0, .int 1, .int (nI (t * t)), .null, .null, .null, .null, .null]) dX6_lean_65 (by decide) rfl ?_
  refine E_iload_n dX6_lean_67 rfl ?_
  refine E_iconst (v := 1) dX6_lean_68 (by decide) ?_
  refine E_icmp_ne (tgt := 84) dX6_lean_69 (by decide) (fun _ => ?_) (fun c => by first | exact absurd c (by decide) | exact absurd (by decide) c)
  refine E_lconst (v := 1) dX6_lean_84 (by decide) ?_
  refine E_lstore (l2 := [.ref 0, .int (nI n), .int (nI t), .int 0, .int 1, .int (nI (t * t)), .long 1, .null, .null, .null, .null]) dX6_lean_85 (by decide) rfl ?_
  refine E_lconst (v := 1) dX6_lean_87 (by decide) ?_
  refine E_lstore (l2 := [.ref 0, .int (nI n), .int (nI t), .int 0, .int 1, .int (nI (t * t)), .long 1, .null, .long 1, .null, .null]) dX6_lean_88 (by decide) rfl ?_
  refine E_iconst (v := 0) dX6_lean_90 (by decide) ?_
  refine E_istore (l2 := [.ref 0, .int (nI n), .int (nI t), .int 0, .int 1, .int (nI (t * t)), .long 1, .null, .long 1, .null, .int 0]) dX6_lean_91 (by decide) rfl ?_
  have L : ∀ i, i ≤ n → E YX6_lean (d + 2) 93 [.ref 0, .int (nI n), .int (nI t), .int 0, .int 1, .int (nI (t * t)), .long (pwL (Int32.toInt64 (100 - nI (t * t))) i), .null, .long (pwL 100 i), .null, .int (nI i)] [] (hov hp [(0, .inr (6, [.ref 1, .ref 5, .ref 7, .ref 10, .ref 18, .ref 26, .ref 31, .ref 35, .ref 37, .int (nI rk)]))]) (fun v h' => v = some (.long (ilt (pwL (Int32.toInt64 (100 - nI (t * t))) n) (pwL 100 n) 1)) ∧ h' = hov hp [(0, .inr (6, [.ref 1, .ref 5, .ref 7, .ref 10, .ref 18, .ref 26, .ref 31, .ref 35, .ref 37, .int (nI rk)]))]) := by
    refine down n ?_ ?_
    · refine E_iload dX6_lean_93 rfl ?_
      refine E_iload_n dX6_lean_95 rfl ?_
      refine E_icmp_ge (tgt := 124) dX6_lean_96 (by decide) (fun _ => ?_) (fun c => absurd (nI_le (Nat.le_refl _) (by omega)) c)
      refine E_lload dX6_lean_124 rfl ?_
      refine E_lload dX6_lean_126 rfl ?_
      refine E_iload dX6_lean_128 rfl ?_
      refine E_callS (As := [.long (pwL (Int32.toInt64 (100 - nI (t * t))) n), .long (pwL 100 n), .int 1]) (l' := [.long (pwL (Int32.toInt64 (100 - nI (t * t))) n), .null, .long (pwL 100 n), .null, .int 1, .null, .null, .null, .null]) (st := []) dX6_lean_130 kX6_244 sX6_inLowestTerms MX6_inLowestTerms rfl rfl (Nat.le_of_ble_eq_true rfl) (FC.use (c_ilt d _ _ _) rfl (L2 := [(0, .inr (6, [.ref 1, .ref 5, .ref 7, .ref 10, .ref 18, .ref 26, .ref 31, .ref 35, .ref 37, .int (nI rk)]))]) rfl) (Nat.le_of_ble_eq_true rfl) (fun _ _ hq9 => E_fgo ?_ hq9)
      show E _ _ 133 [.ref 0, .int (nI n), .int (nI t), .int 0, .int 1, .int (nI (t * t)), .long (pwL (Int32.toInt64 (100 - nI (t * t))) n), .null, .long (pwL 100 n), .null, .int (nI n)] [.long (ilt (pwL (Int32.toInt64 (100 - nI (t * t))) n) (pwL 100 n) 1)] (hov hp [(0, .inr (6, [.ref 1, .ref 5, .ref 7, .ref 10, .ref 18, .ref 26, .ref 31, .ref 35, .ref 37, .int (nI rk)]))]) _
      exact E_lretf dX6_lean_133 rfl rfl rfl
    · intro i hi ih
      refine E_iload dX6_lean_93 rfl ?_
      refine E_iload_n dX6_lean_95 rfl ?_
      refine E_icmp_ge (tgt := 124) dX6_lean_96 (by decide) (fun c => absurd c (nI_ge hi (by omega))) (fun _ => ?_)
      refine E_lload dX6_lean_99 rfl ?_
      refine E_bipush (v := 100) dX6_lean_101 (by decide) ?_
      refine E_iload dX6_lean_103 rfl ?_
      refine E_isub dX6_lean_105 ?_
      refine E_i2l dX6_lean_106 ?_
      refine E_lmul dX6_lean_107 ?_
      refine E_lstore (l2 := [.ref 0, .int (nI n), .int (nI t), .int 0, .int 1, .int (nI (t * t)), .long ((pwL (Int32.toInt64 (100 - nI (t * t))) i) * (Int32.toInt64 (100 - (nI (t * t))))), .null, .long (pwL 100 i), .null, .int (nI i)]) dX6_lean_108 (by decide) rfl ?_
      refine E_lload dX6_lean_110 rfl ?_
      refine E_ldc2 dX6_lean_112 qX6_242 ?_
      refine E_lmul dX6_lean_115 ?_
      refine E_lstore (l2 := [.ref 0, .int (nI n), .int (nI t), .int 0, .int 1, .int (nI (t * t)), .long ((pwL (Int32.toInt64 (100 - nI (t * t))) i) * (Int32.toInt64 (100 - (nI (t * t))))), .null, .long ((pwL 100 i) * 100), .null, .int (nI i)]) dX6_lean_116 (by decide) rfl ?_
      refine E_iinc (y := nI (i + 1)) (l2 := [.ref 0, .int (nI n), .int (nI t), .int 0, .int 1, .int (nI (t * t)), .long ((pwL (Int32.toInt64 (100 - nI (t * t))) i) * (Int32.toInt64 (100 - (nI (t * t))))), .null, .long ((pwL 100 i) * 100), .null, .int (nI (i + 1))]) dX6_lean_118 rfl (nI_1 _) (by decide) rfl ?_
      refine E_goto (tgt := 93) dX6_lean_121 (by decide) ?_
      exact ih
  exact L 0 (by omega)
