/-! what the small methods answer -/
def inL (x lo hi : Int64) : Bool := decide (lo ≤ x) && decide (x ≤ hi)
def hbt (x p : Int32) : Bool := decide (¬ (x >>> (p &&& 31)) &&& 1 = 0)
def nrC (a b : Int32) : Bool := decide (¬ a = -6) && (decide (¬ b = -6) && decide (absI (a / 5 - b / 5) + absI (rmI a 5 - rmI b 5) ≤ 2))
def areB (ce : Nat → Int32) (i j : Nat) : Bool := decide (¬ i = j) && nrC (ce i) (ce j)
def cntN (ce : Nat → Int32) (h : Nat) (o : Int32) : Nat → Int32
  | 0 => 0
  | n + 1 => bif hbt o (nI n) && areB ce h n then cntN ce h o n + 1 else cntN ce h o n
def anyB (p : Nat → Bool) : Nat → Bool
  | 0 => false
  | n + 1 => anyB p n || p n
theorem anyB_t {p : Nat → Bool} {n i : Nat} (hi : i < n) (h : p i = true) : anyB p n = true := by
  induction n with
  | zero => omega
  | succ n ih =>
    rw [anyB]
    by_cases e : i = n
    · subst e; rw [h]; simp
    · rw [ih (by omega)]; rfl
theorem anyB_f {p : Nat → Bool} {n : Nat} (h : ∀ i, i < n → p i = false) : anyB p n = false := by
  induction n with
  | zero => rfl
  | succ n ih => rw [anyB, ih (fun i hi => h i (by omega)), h n (by omega)]; rfl
def takP (ce : Nat → Int32) (cell : Int32) (h : Nat) (i : Nat) : Bool := decide (¬ i = h) && decide (ce i = cell)
def sumN (f : Nat → Int32) : Nat → Int32
  | 0 => 0
  | n + 1 => sumN f n + f n
theorem nI_inj {a b : Nat} (ha : a < 2 ^ 31) (hb : b < 2 ^ 31) (h : nI a = nI b) : a = b := (nI_eq ha hb).mp h

set_option maxHeartbeats 4000000 in
set_option maxRecDepth 20000 in
theorem c_isIn (d : Nat) (x lo hi : Int64) : FC YX6_isIn d [.long x, .null, .long lo, .null, .long hi, .null] [] (some (.int (b2i (inL x lo hi)))) [] := by
  intro hp
  refine E_lload_n dX6_isIn_0 rfl ?_
  refine E_lload_n dX6_isIn_1 rfl ?_
  refine E_lcmp dX6_isIn_2 ?_
  refine E_if_lt (tgt := 17) dX6_isIn_3 (by decide) (fun c3 => ?_) (fun c3 => ?_)
  · rw [lg_cmp_lt, ← Int64.not_le] at c3
    refine E_iconst (v := 0) dX6_isIn_17 (by decide) ?_
    exact E_iretf dX6_isIn_18 rfl (b2i_nar _) (by simp [inL, b2i, c3]) rfl
  · rw [lg_cmp_lt, Int64.not_lt] at c3
    refine E_lload_n dX6_isIn_6 rfl ?_
    refine E_lload dX6_isIn_7 rfl ?_
    refine E_lcmp dX6_isIn_9 ?_
    refine E_if_gt (tgt := 17) dX6_isIn_10 (by decide) (fun c10 => ?_) (fun c10 => ?_)
    · rw [lg_cmp_gt, ← Int64.not_le] at c10
      refine E_iconst (v := 0) dX6_isIn_17 (by decide) ?_
      exact E_iretf dX6_isIn_18 rfl (b2i_nar _) (by simp [inL, b2i, c3, c10]) rfl
    · rw [lg_cmp_gt, Int64.not_lt] at c10
      refine E_iconst (v := 1) dX6_isIn_13 (by decide) ?_
      refine E_goto (tgt := 18) dX6_isIn_14 (by decide) ?_
      exact E_iretf dX6_isIn_18 rfl (b2i_nar _) (by simp [inL, b2i, c3, c10]) rfl

set_option maxHeartbeats 4000000 in
set_option maxRecDepth 20000 in
theorem c_hasBit (d : Nat) (x p : Int32) : FC YX6_hasBit d [.int x, .int p] [] (some (.int (b2i (hbt x p)))) [] := by
  intro hp
  refine E_iload_n dX6_hasBit_0 rfl ?_
  refine E_iload_n dX6_hasBit_1 rfl ?_
  refine E_ishr dX6_hasBit_2 ?_
  refine E_iconst (v := 1) dX6_hasBit_3 (by decide) ?_
  refine E_iand dX6_hasBit_4 ?_
  refine E_if_eq (tgt := 12) dX6_hasBit_5 (by decide) (fun c5 => ?_) (fun c5 => ?_)
  · refine E_iconst (v := 0) dX6_hasBit_12 (by decide) ?_
    exact E_iretf dX6_hasBit_13 rfl (b2i_nar _) (by simp [hbt, b2i, c5]) rfl
  · refine E_iconst (v := 1) dX6_hasBit_8 (by decide) ?_
    refine E_goto (tgt := 13) dX6_hasBit_9 (by decide) ?_
    exact E_iretf dX6_hasBit_13 rfl (b2i_nar _) (by simp [hbt, b2i, c5]) rfl

set_option maxHeartbeats 4000000 in
set_option maxRecDepth 20000 in
theorem c_isHeap (d : Nat) (x : Int32) : FC YX6_isHeap (d + 1) [.int x] [] (some (.int (b2i (inL (Int32.toInt64 x) 0 5)))) [] := by
  intro hp
  refine E_iload_n dX6_isHeap_0 rfl ?_
  refine E_i2l dX6_isHeap_1 ?_
  refine E_lconst (v := 0) dX6_isHeap_2 (by decide) ?_
  refine E_ldc2 dX6_isHeap_3 qX6_284 ?_
  refine E_callS (As := [.long (Int32.toInt64 x), .long 0, .long 5]) (l' := [.long (Int32.toInt64 x), .null, .long 0, .null, .long 5, .null]) (st := []) dX6_isHeap_6 kX6_73 sX6_isIn MX6_isIn rfl rfl (Nat.le_of_ble_eq_true rfl) (FC.use (c_isIn d _ _ _) rfl (L2 := []) rfl) (Nat.le_of_ble_eq_true rfl) (fun _ _ hq9 => E_fgo ?_ hq9)
  show E _ _ 9 [.int x] [.int (b2i (inL (Int32.toInt64 x) 0 5))] (hov hp []) _
  exact E_iretf dX6_isHeap_9 rfl (b2i_nar _) rfl rfl

set_option maxHeartbeats 4000000 in
set_option maxRecDepth 20000 in
theorem c_isAlight_now (d : Nat) (ce he tu : Nat → Int32) (kn dr wa bu ni : Int32) (i : Nat) (hi : i < 6) : FC YX0_isAlight d [.ref 1, .int (nI i)] [(1, .inr (0, [.ref 2, .ref 3, .ref 4, .int kn, .int dr, .int wa, .int bu, .int ni])), (3, .inl (false, 6, he))] (some (.int (b2i (decide (0 < he i))))) [(1, .inr (0, [.ref 2, .ref 3, .ref 4, .int kn, .int dr, .int wa, .int bu, .int ni])), (3, .inl (false, 6, he))] := by
  intro hp
  refine E_aload_n dX0_isAlight_0 rfl ?_
  refine E_get dX0_isAlight_1 fX0_15 (by decide) rfl rfl ?_
  refine E_iload_n dX0_isAlight_4 rfl ?_
  refine E_ialdN (j := i) dX0_isAlight_5 (by decide) rfl (by omega) (by decide) ?_
  refine E_if_le (tgt := 13) dX0_isAlight_6 (by decide) (fun c6 => ?_) (fun c6 => ?_)
  · rw [← Int32.not_lt] at c6
    refine E_iconst (v := 0) dX0_isAlight_13 (by decide) ?_
    exact E_iretf dX0_isAlight_14 rfl (b2i_nar _) (by simp [b2i, c6]) rfl
  · rw [Int32.not_le] at c6
    refine E_iconst (v := 1) dX0_isAlight_9 (by decide) ?_
    refine E_goto (tgt := 14) dX0_isAlight_10 (by decide) ?_
    exact E_iretf dX0_isAlight_14 rfl (b2i_nar _) (by simp [b2i, c6]) rfl

set_option maxHeartbeats 4000000 in
set_option maxRecDepth 20000 in
theorem c_isTaken_now (d : Nat) (ce he tu : Nat → Int32) (kn dr wa bu ni : Int32) (cell : Int32) (j : Nat) (hj : j < 6) : FC YX0_isTakenByAnother d [.ref 1, .int cell, .int (nI j), .null] [(1, .inr (0, [.ref 2, .ref 3, .ref 4, .int kn, .int dr, .int wa, .int bu, .int ni])), (2, .inl (false, 6, ce))] (some (.int (b2i (anyB (takP ce cell j) 6)))) [(1, .inr (0, [.ref 2, .ref 3, .ref 4, .int kn, .int dr, .int wa, .int bu, .int ni])), (2, .inl (false, 6, ce))] := by
  intro hp
  refine E_iconst (v := 0) dX0_isTakenByAnother_0 (by decide) ?_
  refine E_istore_n (l2 := [.ref 1, .int cell, .int (nI j), .int 0]) dX0_isTakenByAnother_1 rfl (by decide) rfl ?_
  have L : ∀ i, i ≤ 6 → (∀ x, x < i → takP ce cell j x = false) → E YX0_isTakenByAnother d 2 [.ref 1, .int cell, .int (nI j), .int (nI i)] [] (hov hp [(1, .inr (0, [.ref 2, .ref 3, .ref 4, .int kn, .int dr, .int wa, .int bu, .int ni])), (2, .inl (false, 6, ce))]) (fun v h' => v = some (.int (b2i (anyB (takP ce cell j) 6))) ∧ h' = hov hp [(1, .inr (0, [.ref 2, .ref 3, .ref 4, .int kn, .int dr, .int wa, .int bu, .int ni])), (2, .inl (false, 6, ce))]) := by
    refine down 6 ?_ ?_
    · intro hno
      refine E_iload_n dX0_isTakenByAnother_2 rfl ?_
      refine E_bipush (v := 6) dX0_isTakenByAnother_3 (by decide) ?_
      refine E_icmp_ge (tgt := 31) dX0_isTakenByAnother_5 (by decide) (fun _ => ?_) (fun c => absurd (by decide) c)
      refine E_iconst (v := 0) dX0_isTakenByAnother_31 (by decide) ?_
      exact E_iretf dX0_isTakenByAnother_32 rfl (b2i_nar _) (by rw [anyB_f hno]; rfl) rfl
    · intro i hi ih hno
      refine E_iload_n dX0_isTakenByAnother_2 rfl ?_
      refine E_bipush (v := 6) dX0_isTakenByAnother_3 (by decide) ?_
      refine E_icmp_ge (tgt := 31) dX0_isTakenByAnother_5 (by decide) (fun c => absurd c (cI_nle (n := 6) rfl hi (by decide))) (fun _ => ?_)
      refine E_iload_n dX0_isTakenByAnother_8 rfl ?_
      refine E_iload_n dX0_isTakenByAnother_9 rfl ?_
      refine E_icmp_eq (tgt := 25) dX0_isTakenByAnother_10 (by decide) (fun c10 => ?_) (fun c10 => ?_)
      · have cb10 : i = j := nI_inj (by omega) (by omega) c10
        refine E_iinc (y := nI (i + 1)) (l2 := [.ref 1, .int cell, .int (nI j), .int (nI (i + 1))]) dX0_isTakenByAnother_25 rfl (nI_1 _) (by decide) rfl ?_
        refine E_goto (tgt := 2) dX0_isTakenByAnother_28 (by decide) ?_
        exact ih (fun x hx => by rcases Nat.lt_succ_iff_lt_or_eq.mp hx with h | h; exact hno x h; subst h; simp [takP, cb10])
      · have cb10 : ¬ i = j := fun h => c10 (by rw [h])
        refine E_aload_n dX0_isTakenByAnother_13 rfl ?_
        refine E_get dX0_isTakenByAnother_14 fX0_9 (by decide) rfl rfl ?_
        refine E_iload_n dX0_isTakenByAnother_17 rfl ?_
        refine E_ialdN (j := i) dX0_isTakenByAnother_18 (by decide) rfl (by omega) (by decide) ?_
        refine E_iload_n dX0_isTakenByAnother_19 rfl ?_
        refine E_icmp_ne (tgt := 25) dX0_isTakenByAnother_20 (by decide) (fun c20 => ?_) (fun c20 => ?_)
        · refine E_iinc (y := nI (i + 1)) (l2 := [.ref 1, .int cell, .int (nI j), .int (nI (i + 1))]) dX0_isTakenByAnother_25 rfl (nI_1 _) (by decide) rfl ?_
          refine E_goto (tgt := 2) dX0_isTakenByAnother_28 (by decide) ?_
          exact ih (fun x hx => by rcases Nat.lt_succ_iff_lt_or_eq.mp hx with h | h; exact hno x h; subst h; simp [takP, c20])
        · refine E_iconst (v := 1) dX0_isTakenByAnother_23 (by decide) ?_
          exact E_iretf dX0_isTakenByAnother_24 rfl (b2i_nar _) (by rw [anyB_t (p := takP ce cell j) hi (by simp [takP, cb10, c20])]; rfl) rfl
  exact L 0 (by decide) (fun x hx => by omega)

set_option maxHeartbeats 4000000 in
set_option maxRecDepth 20000 in
theorem c_areNear_now (d : Nat) (ce he tu : Nat → Int32) (kn dr wa bu ni : Int32) (i j : Nat) (hi : i < 6) (hj : j < 6) : FC YX0_areNear (d + 1) [.ref 1, .int (nI i), .int (nI j), .null, .null, .null, .null] [(1, .inr (0, [.ref 2, .ref 3, .ref 4, .int kn, .int dr, .int wa, .int bu, .int ni])), (2, .inl (false, 6, ce))] (some (.int (b2i (areB ce i j)))) [(1, .inr (0, [.ref 2, .ref 3, .ref 4, .int kn, .int dr, .int wa, .int bu, .int ni])), (2, .inl (false, 6, ce))] := by
  intro hp
  refine E_aload_n dX0_areNear_0 rfl ?_
  refine E_get dX0_areNear_1 fX0_9 (by decide) rfl rfl ?_
  refine E_iload_n dX0_areNear_4 rfl ?_
  refine E_ialdN (j := i) dX0_areNear_5 (by decide) rfl (by omega) (by decide) ?_
  refine E_istore_n (l2 := [.ref 1, .int (nI i), .int (nI j), .int (ce i), .null, .null, .null]) dX0_areNear_6 rfl (by decide) rfl ?_
  refine E_aload_n dX0_areNear_7 rfl ?_
  refine E_get dX0_areNear_8 fX0_9 (by decide) rfl rfl ?_
  refine E_iload_n dX0_areNear_11 rfl ?_
  refine E_ialdN (j := j) dX0_areNear_12 (by decide) rfl (by omega) (by decide) ?_
  refine E_istore (l2 := [.ref 1, .int (nI i), .int (nI j), .int (ce i), .int (ce j), .null, .null]) dX0_areNear_13 (by decide) rfl ?_
  refine E_iload_n dX0_areNear_15 rfl ?_
  refine E_iload_n dX0_areNear_16 rfl ?_
  refine E_icmp_eq (tgt := 33) dX0_areNear_17 (by decide) (fun c17 => ?_) (fun c17 => ?_)
  · have c17 : i = j := nI_inj (by omega) (by omega) c17
    refine E_iconst (v := 0) dX0_areNear_33 (by decide) ?_
    exact E_iretf dX0_areNear_34 rfl (b2i_nar _) (by simp [areB, nrC, b2i, c17]) rfl
  · have c17 : ¬ i = j := fun h => c17 (by rw [h])
    refine E_iload_n dX0_areNear_20 rfl ?_
    refine E_bipush (v := (-6)) dX0_areNear_21 (by decide) ?_
    refine E_icmp_eq (tgt := 33) dX0_areNear_23 (by decide) (fun c23 => ?_) (fun c23 => ?_)
    · refine E_iconst (v := 0) dX0_areNear_33 (by decide) ?_
      exact E_iretf dX0_areNear_34 rfl (b2i_nar _) (by simp [areB, nrC, b2i, c17, c23]) rfl
    · refine E_iload dX0_areNear_26 rfl ?_
      refine E_bipush (v := (-6)) dX0_areNear_28 (by decide) ?_
      refine E_icmp_ne (tgt := 35) dX0_areNear_30 (by decide) (fun c30 => ?_) (fun c30 => ?_)
      · refine E_iload_n dX0_areNear_35 rfl ?_
        refine E_iconst (v := 5) dX0_areNear_36 (by decide) ?_
        refine E_idiv dX0_areNear_37 (by decide) ?_
        refine E_iload dX0_areNear_38 rfl ?_
        refine E_iconst (v := 5) dX0_areNear_40 (by decide) ?_
        refine E_idiv dX0_areNear_41 (by decide) ?_
        refine E_isub dX0_areNear_42 ?_
        refine E_Mabs dX0_areNear_43 kX0_37 (Nat.le_of_ble_eq_true rfl) ?_
        refine E_istore (l2 := [.ref 1, .int (nI i), .int (nI j), .int (ce i), .int (ce j), .int (absI (((ce i) / 5) - ((ce j) / 5))), .null]) dX0_areNear_46 (by decide) rfl ?_
        refine E_iload_n dX0_areNear_48 rfl ?_
        refine E_iconst (v := 5) dX0_areNear_49 (by decide) ?_
        refine E_irem dX0_areNear_50 (by decide) ?_
        refine E_iload dX0_areNear_51 rfl ?_
        refine E_iconst (v := 5) dX0_areNear_53 (by decide) ?_
        refine E_irem dX0_areNear_54 (by decide) ?_
        refine E_isub dX0_areNear_55 ?_
        refine E_Mabs dX0_areNear_56 kX0_37 (Nat.le_of_ble_eq_true rfl) ?_
        refine E_istore (l2 := [.ref 1, .int (nI i), .int (nI j), .int (ce i), .int (ce j), .int (absI (((ce i) / 5) - ((ce j) / 5))), .int (absI ((rmI (ce i) 5) - (rmI (ce j) 5)))]) dX0_areNear_59 (by decide) rfl ?_
        refine E_iload dX0_areNear_61 rfl ?_
        refine E_iload dX0_areNear_63 rfl ?_
        refine E_iadd dX0_areNear_65 ?_
        refine E_iconst (v := 2) dX0_areNear_66 (by decide) ?_
        refine E_icmp_gt (tgt := 74) dX0_areNear_67 (by decide) (fun c67 => ?_) (fun c67 => ?_)
        · rw [← Int32.not_le] at c67
          refine E_iconst (v := 0) dX0_areNear_74 (by decide) ?_
          exact E_iretf dX0_areNear_75 rfl (b2i_nar _) (by simp [areB, nrC, b2i, c17, c23, c30, c67]) rfl
        · rw [Int32.not_lt] at c67
          refine E_iconst (v := 1) dX0_areNear_70 (by decide) ?_
          refine E_goto (tgt := 75) dX0_areNear_71 (by decide) ?_
          exact E_iretf dX0_areNear_75 rfl (b2i_nar _) (by simp [areB, nrC, b2i, c17, c23, c30, c67]) rfl
      · refine E_iconst (v := 0) dX0_areNear_33 (by decide) ?_
        exact E_iretf dX0_areNear_34 rfl (b2i_nar _) (by simp [areB, nrC, b2i, c17, c23, c30]) rfl

set_option maxHeartbeats 4000000 in
set_option maxRecDepth 20000 in
theorem c_countNear_now (d : Nat) (ce he tu : Nat → Int32) (kn dr wa bu ni : Int32) (h : Nat) (hh : h < 6) (o : Int32) : FC YX0_countNear (d + 2) [.ref 1, .int (nI h), .int o, .null, .null] [(1, .inr (0, [.ref 2, .ref 3, .ref 4, .int kn, .int dr, .int wa, .int bu, .int ni])), (2, .inl (false, 6, ce))] (some (.int (cntN ce h o 6))) [(1, .inr (0, [.ref 2, .ref 3, .ref 4, .int kn, .int dr, .int wa, .int bu, .int ni])), (2, .inl (false, 6, ce))] := by
  intro hp
  refine E_iconst (v := 0) dX0_countNear_0 (by decide) ?_
  refine E_istore_n (l2 := [.ref 1, .int (nI h), .int o, .int 0, .null]) dX0_countNear_1 rfl (by decide) rfl ?_
  refine E_iconst (v := 0) dX0_countNear_2 (by decide) ?_
  refine E_istore (l2 := [.ref 1, .int (nI h), .int o, .int 0, .int 0]) dX0_countNear_3 (by decide) rfl ?_
  have L5 : ∀ i, i ≤ 6 → E YX0_countNear (d + 2) 5 [.ref 1, .int (nI h), .int o, .int (cntN ce h o i), .int (nI i)] [] (hov hp [(1, .inr (0, [.ref 2, .ref 3, .ref 4, .int kn, .int dr, .int wa, .int bu, .int ni])), (2, .inl (false, 6, ce))]) (fun v h' => v = some (.int (cntN ce h o 6)) ∧ h' = hov hp [(1, .inr (0, [.ref 2, .ref 3, .ref 4, .int kn, .int dr, .int wa, .int bu, .int ni])), (2, .inl (false, 6, ce))]) := by
    refine down 6 ?_ ?_
    · refine E_iload dX0_countNear_5 rfl ?_
      refine E_bipush (v := 6) dX0_countNear_7 (by decide) ?_
      refine E_icmp_ge (tgt := 40) dX0_countNear_9 (by decide) (fun _ => ?_) (fun c => absurd (by decide) c)
      refine E_iload_n dX0_countNear_40 rfl ?_
      exact E_iretf dX0_countNear_41 rfl rfl rfl rfl
    · intro i hi ih
      refine E_iload dX0_countNear_5 rfl ?_
      refine E_bipush (v := 6) dX0_countNear_7 (by decide) ?_
      refine E_icmp_ge (tgt := 40) dX0_countNear_9 (by decide) (fun c => absurd c (cI_nle (n := 6) rfl hi (by decide))) (fun _ => ?_)
      refine E_iload_n dX0_countNear_12 rfl ?_
      refine E_iload dX0_countNear_13 rfl ?_
      refine E_callN (As := [.int o, .int (nI i)]) (l' := [.int o, .int (nI i)]) (st := []) dX0_countNear_15 nX0_43 sX6_hasBit MX6_hasBit rfl rfl (Nat.le_of_ble_eq_true rfl) (FC.use (c_hasBit (d + 1) _ _) rfl (L2 := [(1, .inr (0, [.ref 2, .ref 3, .ref 4, .int kn, .int dr, .int wa, .int bu, .int ni])), (2, .inl (false, 6, ce))]) rfl) (Nat.le_of_ble_eq_true rfl) (fun _ _ hq9 => E_fgo ?_ hq9)
      show E _ _ 18 [.ref 1, .int (nI h), .int o, .int (cntN ce h o i), .int (nI i)] [.int (b2i (hbt o (nI i)))] (hov hp [(1, .inr (0, [.ref 2, .ref 3, .ref 4, .int kn, .int dr, .int wa, .int bu, .int ni])), (2, .inl (false, 6, ce))]) _
      refine E_if_eq (tgt := 34) dX0_countNear_18 (by decide) (fun c18 => ?_) (fun c18 => ?_)
      · have c18 := b2i_e0 c18
        refine E_iinc (y := nI (i + 1)) (l2 := [.ref 1, .int (nI h), .int o, .int (cntN ce h o i), .int (nI (i + 1))]) dX0_countNear_34 rfl (nI_1 _) (by decide) rfl ?_
        refine E_goto (tgt := 5) dX0_countNear_37 (by decide) ?_
        rw [show cntN ce h o (i + 1) = cntN ce h o i from by simp [cntN, c18]] at ih
        exact ih
      · have c18 := b2i_n0 c18
        refine E_aload_n dX0_countNear_21 rfl ?_
        refine E_iload_n dX0_countNear_22 rfl ?_
        refine E_iload dX0_countNear_23 rfl ?_
        refine E_callV (As := [.int (nI h), .int (nI i)]) (l' := [.ref 1, .int (nI h), .int (nI i), .null, .null, .null, .null]) (st := []) dX0_countNear_25 kX0_47 iX0_areNear vX0_areNear (by decide) rfl rfl MX0_areNear rfl rfl (Nat.le_of_ble_eq_true rfl) (FC.use (c_areNear_now d ce he tu kn dr wa bu ni h i (by omega) (by omega)) rfl (L2 := [(1, .inr (0, [.ref 2, .ref 3, .ref 4, .int kn, .int dr, .int wa, .int bu, .int ni])), (2, .inl (false, 6, ce))]) rfl) (Nat.le_of_ble_eq_true rfl) (fun _ _ hq9 => E_fgo ?_ hq9)
        show E _ _ 28 [.ref 1, .int (nI h), .int o, .int (cntN ce h o i), .int (nI i)] [.int (b2i (areB ce h i))] (hov hp [(1, .inr (0, [.ref 2, .ref 3, .ref 4, .int kn, .int dr, .int wa, .int bu, .int ni])), (2, .inl (false, 6, ce))]) _
        refine E_if_eq (tgt := 34) dX0_countNear_28 (by decide) (fun c28 => ?_) (fun c28 => ?_)
        · have c28 := b2i_e0 c28
          refine E_iinc (y := nI (i + 1)) (l2 := [.ref 1, .int (nI h), .int o, .int (cntN ce h o i), .int (nI (i + 1))]) dX0_countNear_34 rfl (nI_1 _) (by decide) rfl ?_
          refine E_goto (tgt := 5) dX0_countNear_37 (by decide) ?_
          rw [show cntN ce h o (i + 1) = cntN ce h o i from by simp [cntN, c18, c28]] at ih
          exact ih
        · have c28 := b2i_n0 c28
          refine E_iinc (y := (cntN ce h o i) + 1) (l2 := [.ref 1, .int (nI h), .int o, .int ((cntN ce h o i) + 1), .int (nI i)]) dX0_countNear_31 rfl rfl (by decide) rfl ?_
          refine E_iinc (y := nI (i + 1)) (l2 := [.ref 1, .int (nI h), .int o, .int ((cntN ce h o i) + 1), .int (nI (i + 1))]) dX0_countNear_34 rfl (nI_1 _) (by decide) rfl ?_
          refine E_goto (tgt := 5) dX0_countNear_37 (by decide) ?_
          rw [show cntN ce h o (i + 1) = (cntN ce h o i) + 1 from by simp [cntN, c18, c28]] at ih
          exact ih
  exact L5 0 (by decide)

set_option maxHeartbeats 4000000 in
set_option maxRecDepth 20000 in
theorem c_isAlight_tri (d : Nat) (ce he tu : Nat → Int32) (kn dr wa bu ni : Int32) (i : Nat) (hi : i < 6) : FC YX0_isAlight d [.ref 27, .int (nI i)] [(27, .inr (0, [.ref 28, .ref 29, .ref 30, .int kn, .int dr, .int wa, .int bu, .int ni])), (29, .inl (false, 6, he))] (some (.int (b2i (decide (0 < he i))))) [(27, .inr (0, [.ref 28, .ref 29, .ref 30, .int kn, .int dr, .int wa, .int bu, .int ni])), (29, .inl (false, 6, he))] := by
  intro hp
  refine E_aload_n dX0_isAlight_0 rfl ?_
  refine E_get dX0_isAlight_1 fX0_15 (by decide) rfl rfl ?_
  refine E_iload_n dX0_isAlight_4 rfl ?_
  refine E_ialdN (j := i) dX0_isAlight_5 (by decide) rfl (by omega) (by decide) ?_
  refine E_if_le (tgt := 13) dX0_isAlight_6 (by decide) (fun c6 => ?_) (fun c6 => ?_)
  · rw [← Int32.not_lt] at c6
    refine E_iconst (v := 0) dX0_isAlight_13 (by decide) ?_
    exact E_iretf dX0_isAlight_14 rfl (b2i_nar _) (by simp [b2i, c6]) rfl
  · rw [Int32.not_le] at c6
    refine E_iconst (v := 1) dX0_isAlight_9 (by decide) ?_
    refine E_goto (tgt := 14) dX0_isAlight_10 (by decide) ?_
    exact E_iretf dX0_isAlight_14 rfl (b2i_nar _) (by simp [b2i, c6]) rfl

set_option maxHeartbeats 4000000 in
set_option maxRecDepth 20000 in
theorem c_isTaken_tri (d : Nat) (ce he tu : Nat → Int32) (kn dr wa bu ni : Int32) (cell : Int32) (j : Nat) (hj : j < 6) : FC YX0_isTakenByAnother d [.ref 27, .int cell, .int (nI j), .null] [(27, .inr (0, [.ref 28, .ref 29, .ref 30, .int kn, .int dr, .int wa, .int bu, .int ni])), (28, .inl (false, 6, ce))] (some (.int (b2i (anyB (takP ce cell j) 6)))) [(27, .inr (0, [.ref 28, .ref 29, .ref 30, .int kn, .int dr, .int wa, .int bu, .int ni])), (28, .inl (false, 6, ce))] := by
  intro hp
  refine E_iconst (v := 0) dX0_isTakenByAnother_0 (by decide) ?_
  refine E_istore_n (l2 := [.ref 27, .int cell, .int (nI j), .int 0]) dX0_isTakenByAnother_1 rfl (by decide) rfl ?_
  have L : ∀ i, i ≤ 6 → (∀ x, x < i → takP ce cell j x = false) → E YX0_isTakenByAnother d 2 [.ref 27, .int cell, .int (nI j), .int (nI i)] [] (hov hp [(27, .inr (0, [.ref 28, .ref 29, .ref 30, .int kn, .int dr, .int wa, .int bu, .int ni])), (28, .inl (false, 6, ce))]) (fun v h' => v = some (.int (b2i (anyB (takP ce cell j) 6))) ∧ h' = hov hp [(27, .inr (0, [.ref 28, .ref 29, .ref 30, .int kn, .int dr, .int wa, .int bu, .int ni])), (28, .inl (false, 6, ce))]) := by
    refine down 6 ?_ ?_
    · intro hno
      refine E_iload_n dX0_isTakenByAnother_2 rfl ?_
      refine E_bipush (v := 6) dX0_isTakenByAnother_3 (by decide) ?_
      refine E_icmp_ge (tgt := 31) dX0_isTakenByAnother_5 (by decide) (fun _ => ?_) (fun c => absurd (by decide) c)
      refine E_iconst (v := 0) dX0_isTakenByAnother_31 (by decide) ?_
      exact E_iretf dX0_isTakenByAnother_32 rfl (b2i_nar _) (by rw [anyB_f hno]; rfl) rfl
    · intro i hi ih hno
      refine E_iload_n dX0_isTakenByAnother_2 rfl ?_
      refine E_bipush (v := 6) dX0_isTakenByAnother_3 (by decide) ?_
      refine E_icmp_ge (tgt := 31) dX0_isTakenByAnother_5 (by decide) (fun c => absurd c (cI_nle (n := 6) rfl hi (by decide))) (fun _ => ?_)
      refine E_iload_n dX0_isTakenByAnother_8 rfl ?_
      refine E_iload_n dX0_isTakenByAnother_9 rfl ?_
      refine E_icmp_eq (tgt := 25) dX0_isTakenByAnother_10 (by decide) (fun c10 => ?_) (fun c10 => ?_)
      · have cb10 : i = j := nI_inj (by omega) (by omega) c10
        refine E_iinc (y := nI (i + 1)) (l2 := [.ref 27, .int cell, .int (nI j), .int (nI (i + 1))]) dX0_isTakenByAnother_25 rfl (nI_1 _) (by decide) rfl ?_
        refine E_goto (tgt := 2) dX0_isTakenByAnother_28 (by decide) ?_
        exact ih (fun x hx => by rcases Nat.lt_succ_iff_lt_or_eq.mp hx with h | h; exact hno x h; subst h; simp [takP, cb10])
      · have cb10 : ¬ i = j := fun h => c10 (by rw [h])
        refine E_aload_n dX0_isTakenByAnother_13 rfl ?_
        refine E_get dX0_isTakenByAnother_14 fX0_9 (by decide) rfl rfl ?_
        refine E_iload_n dX0_isTakenByAnother_17 rfl ?_
        refine E_ialdN (j := i) dX0_isTakenByAnother_18 (by decide) rfl (by omega) (by decide) ?_
        refine E_iload_n dX0_isTakenByAnother_19 rfl ?_
        refine E_icmp_ne (tgt := 25) dX0_isTakenByAnother_20 (by decide) (fun c20 => ?_) (fun c20 => ?_)
        · refine E_iinc (y := nI (i + 1)) (l2 := [.ref 27, .int cell, .int (nI j), .int (nI (i + 1))]) dX0_isTakenByAnother_25 rfl (nI_1 _) (by decide) rfl ?_
          refine E_goto (tgt := 2) dX0_isTakenByAnother_28 (by decide) ?_
          exact ih (fun x hx => by rcases Nat.lt_succ_iff_lt_or_eq.mp hx with h | h; exact hno x h; subst h; simp [takP, c20])
        · refine E_iconst (v := 1) dX0_isTakenByAnother_23 (by decide) ?_
          exact E_iretf dX0_isTakenByAnother_24 rfl (b2i_nar _) (by rw [anyB_t (p := takP ce cell j) hi (by simp [takP, cb10, c20])]; rfl) rfl
  exact L 0 (by decide) (fun x hx => by omega)

set_option maxHeartbeats 4000000 in
set_option maxRecDepth 20000 in
theorem c_areNear_tri (d : Nat) (ce he tu : Nat → Int32) (kn dr wa bu ni : Int32) (i j : Nat) (hi : i < 6) (hj : j < 6) : FC YX0_areNear (d + 1) [.ref 27, .int (nI i), .int (nI j), .null, .null, .null, .null] [(27, .inr (0, [.ref 28, .ref 29, .ref 30, .int kn, .int dr, .int wa, .int bu, .int ni])), (28, .inl (false, 6, ce))] (some (.int (b2i (areB ce i j)))) [(27, .inr (0, [.ref 28, .ref 29, .ref 30, .int kn, .int dr, .int wa, .int bu, .int ni])), (28, .inl (false, 6, ce))] := by
  intro hp
  refine E_aload_n dX0_areNear_0 rfl ?_
  refine E_get dX0_areNear_1 fX0_9 (by decide) rfl rfl ?_
  refine E_iload_n dX0_areNear_4 rfl ?_
  refine E_ialdN (j := i) dX0_areNear_5 (by decide) rfl (by omega) (by decide) ?_
  refine E_istore_n (l2 := [.ref 27, .int (nI i), .int (nI j), .int (ce i), .null, .null, .null]) dX0_areNear_6 rfl (by decide) rfl ?_
  refine E_aload_n dX0_areNear_7 rfl ?_
  refine E_get dX0_areNear_8 fX0_9 (by decide) rfl rfl ?_
  refine E_iload_n dX0_areNear_11 rfl ?_
  refine E_ialdN (j := j) dX0_areNear_12 (by decide) rfl (by omega) (by decide) ?_
  refine E_istore (l2 := [.ref 27, .int (nI i), .int (nI j), .int (ce i), .int (ce j), .null, .null]) dX0_areNear_13 (by decide) rfl ?_
  refine E_iload_n dX0_areNear_15 rfl ?_
  refine E_iload_n dX0_areNear_16 rfl ?_
  refine E_icmp_eq (tgt := 33) dX0_areNear_17 (by decide) (fun c17 => ?_) (fun c17 => ?_)
  · have c17 : i = j := nI_inj (by omega) (by omega) c17
    refine E_iconst (v := 0) dX0_areNear_33 (by decide) ?_
    exact E_iretf dX0_areNear_34 rfl (b2i_nar _) (by simp [areB, nrC, b2i, c17]) rfl
  · have c17 : ¬ i = j := fun h => c17 (by rw [h])
    refine E_iload_n dX0_areNear_20 rfl ?_
    refine E_bipush (v := (-6)) dX0_areNear_21 (by decide) ?_
    refine E_icmp_eq (tgt := 33) dX0_areNear_23 (by decide) (fun c23 => ?_) (fun c23 => ?_)
    · refine E_iconst (v := 0) dX0_areNear_33 (by decide) ?_
      exact E_iretf dX0_areNear_34 rfl (b2i_nar _) (by simp [areB, nrC, b2i, c17, c23]) rfl
    · refine E_iload dX0_areNear_26 rfl ?_
      refine E_bipush (v := (-6)) dX0_areNear_28 (by decide) ?_
      refine E_icmp_ne (tgt := 35) dX0_areNear_30 (by decide) (fun c30 => ?_) (fun c30 => ?_)
      · refine E_iload_n dX0_areNear_35 rfl ?_
        refine E_iconst (v := 5) dX0_areNear_36 (by decide) ?_
        refine E_idiv dX0_areNear_37 (by decide) ?_
        refine E_iload dX0_areNear_38 rfl ?_
        refine E_iconst (v := 5) dX0_areNear_40 (by decide) ?_
        refine E_idiv dX0_areNear_41 (by decide) ?_
        refine E_isub dX0_areNear_42 ?_
        refine E_Mabs dX0_areNear_43 kX0_37 (Nat.le_of_ble_eq_true rfl) ?_
        refine E_istore (l2 := [.ref 27, .int (nI i), .int (nI j), .int (ce i), .int (ce j), .int (absI (((ce i) / 5) - ((ce j) / 5))), .null]) dX0_areNear_46 (by decide) rfl ?_
        refine E_iload_n dX0_areNear_48 rfl ?_
        refine E_iconst (v := 5) dX0_areNear_49 (by decide) ?_
        refine E_irem dX0_areNear_50 (by decide) ?_
        refine E_iload dX0_areNear_51 rfl ?_
        refine E_iconst (v := 5) dX0_areNear_53 (by decide) ?_
        refine E_irem dX0_areNear_54 (by decide) ?_
        refine E_isub dX0_areNear_55 ?_
        refine E_Mabs dX0_areNear_56 kX0_37 (Nat.le_of_ble_eq_true rfl) ?_
        refine E_istore (l2 := [.ref 27, .int (nI i), .int (nI j), .int (ce i), .int (ce j), .int (absI (((ce i) / 5) - ((ce j) / 5))), .int (absI ((rmI (ce i) 5) - (rmI (ce j) 5)))]) dX0_areNear_59 (by decide) rfl ?_
        refine E_iload dX0_areNear_61 rfl ?_
        refine E_iload dX0_areNear_63 rfl ?_
        refine E_iadd dX0_areNear_65 ?_
        refine E_iconst (v := 2) dX0_areNear_66 (by decide) ?_
        refine E_icmp_gt (tgt := 74) dX0_areNear_67 (by decide) (fun c67 => ?_) (fun c67 => ?_)
        · rw [← Int32.not_le] at c67
          refine E_iconst (v := 0) dX0_areNear_74 (by decide) ?_
          exact E_iretf dX0_areNear_75 rfl (b2i_nar _) (by simp [areB, nrC, b2i, c17, c23, c30, c67]) rfl
        · rw [Int32.not_lt] at c67
          refine E_iconst (v := 1) dX0_areNear_70 (by decide) ?_
          refine E_goto (tgt := 75) dX0_areNear_71 (by decide) ?_
          exact E_iretf dX0_areNear_75 rfl (b2i_nar _) (by simp [areB, nrC, b2i, c17, c23, c30, c67]) rfl
      · refine E_iconst (v := 0) dX0_areNear_33 (by decide) ?_
        exact E_iretf dX0_areNear_34 rfl (b2i_nar _) (by simp [areB, nrC, b2i, c17, c23, c30]) rfl

set_option maxHeartbeats 4000000 in
set_option maxRecDepth 20000 in
theorem c_countNear_tri (d : Nat) (ce he tu : Nat → Int32) (kn dr wa bu ni : Int32) (h : Nat) (hh : h < 6) (o : Int32) : FC YX0_countNear (d + 2) [.ref 27, .int (nI h), .int o, .null, .null] [(27, .inr (0, [.ref 28, .ref 29, .ref 30, .int kn, .int dr, .int wa, .int bu, .int ni])), (28, .inl (false, 6, ce))] (some (.int (cntN ce h o 6))) [(27, .inr (0, [.ref 28, .ref 29, .ref 30, .int kn, .int dr, .int wa, .int bu, .int ni])), (28, .inl (false, 6, ce))] := by
  intro hp
  refine E_iconst (v := 0) dX0_countNear_0 (by decide) ?_
  refine E_istore_n (l2 := [.ref 27, .int (nI h), .int o, .int 0, .null]) dX0_countNear_1 rfl (by decide) rfl ?_
  refine E_iconst (v := 0) dX0_countNear_2 (by decide) ?_
  refine E_istore (l2 := [.ref 27, .int (nI h), .int o, .int 0, .int 0]) dX0_countNear_3 (by decide) rfl ?_
  have L5 : ∀ i, i ≤ 6 → E YX0_countNear (d + 2) 5 [.ref 27, .int (nI h), .int o, .int (cntN ce h o i), .int (nI i)] [] (hov hp [(27, .inr (0, [.ref 28, .ref 29, .ref 30, .int kn, .int dr, .int wa, .int bu, .int ni])), (28, .inl (false, 6, ce))]) (fun v h' => v = some (.int (cntN ce h o 6)) ∧ h' = hov hp [(27, .inr (0, [.ref 28, .ref 29, .ref 30, .int kn, .int dr, .int wa, .int bu, .int ni])), (28, .inl (false, 6, ce))]) := by
    refine down 6 ?_ ?_
    · refine E_iload dX0_countNear_5 rfl ?_
      refine E_bipush (v := 6) dX0_countNear_7 (by decide) ?_
      refine E_icmp_ge (tgt := 40) dX0_countNear_9 (by decide) (fun _ => ?_) (fun c => absurd (by decide) c)
      refine E_iload_n dX0_countNear_40 rfl ?_
      exact E_iretf dX0_countNear_41 rfl rfl rfl rfl
    · intro i hi ih
      refine E_iload dX0_countNear_5 rfl ?_
      refine E_bipush (v := 6) dX0_countNear_7 (by decide) ?_
      refine E_icmp_ge (tgt := 40) dX0_countNear_9 (by decide) (fun c => absurd c (cI_nle (n := 6) rfl hi (by decide))) (fun _ => ?_)
      refine E_iload_n dX0_countNear_12 rfl ?_
      refine E_iload dX0_countNear_13 rfl ?_
      refine E_callN (As := [.int o, .int (nI i)]) (l' := [.int o, .int (nI i)]) (st := []) dX0_countNear_15 nX0_43 sX6_hasBit MX6_hasBit rfl rfl (Nat.le_of_ble_eq_true rfl) (FC.use (c_hasBit (d + 1) _ _) rfl (L2 := [(27, .inr (0, [.ref 28, .ref 29, .ref 30, .int kn, .int dr, .int wa, .int bu, .int ni])), (28, .inl (false, 6, ce))]) rfl) (Nat.le_of_ble_eq_true rfl) (fun _ _ hq9 => E_fgo ?_ hq9)
      show E _ _ 18 [.ref 27, .int (nI h), .int o, .int (cntN ce h o i), .int (nI i)] [.int (b2i (hbt o (nI i)))] (hov hp [(27, .inr (0, [.ref 28, .ref 29, .ref 30, .int kn, .int dr, .int wa, .int bu, .int ni])), (28, .inl (false, 6, ce))]) _
      refine E_if_eq (tgt := 34) dX0_countNear_18 (by decide) (fun c18 => ?_) (fun c18 => ?_)
      · have c18 := b2i_e0 c18
        refine E_iinc (y := nI (i + 1)) (l2 := [.ref 27, .int (nI h), .int o, .int (cntN ce h o i), .int (nI (i + 1))]) dX0_countNear_34 rfl (nI_1 _) (by decide) rfl ?_
        refine E_goto (tgt := 5) dX0_countNear_37 (by decide) ?_
        rw [show cntN ce h o (i + 1) = cntN ce h o i from by simp [cntN, c18]] at ih
        exact ih
      · have c18 := b2i_n0 c18
        refine E_aload_n dX0_countNear_21 rfl ?_
        refine E_iload_n dX0_countNear_22 rfl ?_
        refine E_iload dX0_countNear_23 rfl ?_
        refine E_callV (As := [.int (nI h), .int (nI i)]) (l' := [.ref 27, .int (nI h), .int (nI i), .null, .null, .null, .null]) (st := []) dX0_countNear_25 kX0_47 iX0_areNear vX0_areNear (by decide) rfl rfl MX0_areNear rfl rfl (Nat.le_of_ble_eq_true rfl) (FC.use (c_areNear_tri d ce he tu kn dr wa bu ni h i (by omega) (by omega)) rfl (L2 := [(27, .inr (0, [.ref 28, .ref 29, .ref 30, .int kn, .int dr, .int wa, .int bu, .int ni])), (28, .inl (false, 6, ce))]) rfl) (Nat.le_of_ble_eq_true rfl) (fun _ _ hq9 => E_fgo ?_ hq9)
        show E _ _ 28 [.ref 27, .int (nI h), .int o, .int (cntN ce h o i), .int (nI i)] [.int (b2i (areB ce h i))] (hov hp [(27, .inr (0, [.ref 28, .ref 29, .ref 30, .int kn, .int dr, .int wa, .int bu, .int ni])), (28, .inl (false, 6, ce))]) _
        refine E_if_eq (tgt := 34) dX0_countNear_28 (by decide) (fun c28 => ?_) (fun c28 => ?_)
        · have c28 := b2i_e0 c28
          refine E_iinc (y := nI (i + 1)) (l2 := [.ref 27, .int (nI h), .int o, .int (cntN ce h o i), .int (nI (i + 1))]) dX0_countNear_34 rfl (nI_1 _) (by decide) rfl ?_
          refine E_goto (tgt := 5) dX0_countNear_37 (by decide) ?_
          rw [show cntN ce h o (i + 1) = cntN ce h o i from by simp [cntN, c18, c28]] at ih
          exact ih
        · have c28 := b2i_n0 c28
          refine E_iinc (y := (cntN ce h o i) + 1) (l2 := [.ref 27, .int (nI h), .int o, .int ((cntN ce h o i) + 1), .int (nI i)]) dX0_countNear_31 rfl rfl (by decide) rfl ?_
          refine E_iinc (y := nI (i + 1)) (l2 := [.ref 27, .int (nI h), .int o, .int ((cntN ce h o i) + 1), .int (nI (i + 1))]) dX0_countNear_34 rfl (nI_1 _) (by decide) rfl ?_
          refine E_goto (tgt := 5) dX0_countNear_37 (by decide) ?_
          rw [show cntN ce h o (i + 1) = (cntN ce h o i) + 1 from by simp [cntN, c18, c28]] at ih
          exact ih
  exact L5 0 (by decide)
