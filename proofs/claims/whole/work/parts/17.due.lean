/-! DUE: digits, sums -/
def rn : Nat → Int32 → (Nat → Int32) → Bool × (Nat → Int32)
  | 0, x, f => (decide (x = 0), f)
  | m + 1, x, f => if rmI x 10 ≤ 0 then (false, f) else rn m (x / 10) (upd f m (rmI x 10))
def rd : Nat → Int64 → (Nat → Int32) → Bool × (Nat → Int32)
  | 0, x, f => (decide (x = 0), f)
  | m + 1, x, f => rd m (x / 100) (upd f m (Int64.toInt32 (rmL x 100)))
def smD (nv dv : Nat → Nat) (x : Int32) (c : Nat) : Nat → Nat
  | 0 => 0
  | j + 1 => smD nv dv x c j + (bif hbt x (nI j) && decide (dv j ≤ dv c) then nv j else 0)
def cbP (nv dv : Nat → Nat) (n : Nat) (x : Int32) (i : Nat) : Bool := !hbt x (nI i) || decide (smD nv dv x i n ≤ dv i)
theorem smD_le {nv dv : Nat → Nat} {x : Int32} {c n : Nat} (h : ∀ j, j < n → nv j ≤ 9) : ∀ j, j ≤ n → smD nv dv x c j ≤ 9 * j
  | 0, _ => Nat.le_refl _
  | j + 1, hj => by
    have h1 := smD_le (dv := dv) (x := x) (c := c) h j (by omega)
    have h2 := h j (by omega)
    rw [smD]
    cases (hbt x (nI j) && decide (dv j ≤ dv c)) <;> simp <;> omega
theorem smD_t {nv dv : Nat → Nat} {x : Int32} {c j : Nat} (h : hbt x (nI j) = true) (h2 : dv j ≤ dv c) : nI (smD nv dv x c j) + nI (nv j) = nI (smD nv dv x c (j + 1)) := by
  rw [smD, h, decide_eq_true h2]; exact nI_add _ _
theorem smD_f {nv dv : Nat → Nat} {x : Int32} {c j : Nat} (h : (hbt x (nI j) && decide (dv j ≤ dv c)) = false) : nI (smD nv dv x c j) + 0 = nI (smD nv dv x c (j + 1)) := by
  rw [smD, h]; exact Int32.add_zero _
theorem smD_n {nv dv : Nat → Nat} {x : Int32} {c j : Nat} (h : (hbt x (nI j) && decide (dv j ≤ dv c)) = false) : smD nv dv x c (j + 1) = smD nv dv x c j := by
  rw [smD, h]; rfl
/-- the most in time, over the sets 1 .. c, by a test of sets -/
def mit (ok : Int32 → Bool) : Nat → Int32
  | 0 => 0
  | c + 1 => bif decide (bcI (mit ok c) < bcI (nI (c + 1))) && ok (nI (c + 1)) then nI (c + 1) else mit ok c
theorem mit_t {ok : Int32 → Bool} {c : Nat} (h1 : bcI (mit ok c) < bcI (nI (c + 1))) (h2 : ok (nI (c + 1)) = true) : mit ok (c + 1) = nI (c + 1) := by rw [mit, decide_eq_true h1, h2]; rfl
theorem mit_a {ok : Int32 → Bool} {c : Nat} (h1 : ¬ bcI (mit ok c) < bcI (nI (c + 1))) : mit ok (c + 1) = mit ok c := by rw [mit, decide_eq_false h1]; rfl
theorem mit_b {ok : Int32 → Bool} {c : Nat} (h2 : ok (nI (c + 1)) = false) : mit ok (c + 1) = mit ok c := by rw [mit, h2]; cases decide (bcI (mit ok c) < bcI (nI (c + 1))) <;> rfl
theorem shl8 : ∀ n, n < 9 → (1 : Int32) <<< (nI n &&& 31) = nI (2 ^ n) := by decide
theorem m1_add (m : Nat) : nI (m + 1) - 1 + Int32.ofInt (-1) = nI m - 1 := by
  rw [nI_pred, show Int32.ofInt (-1) = -1 from by decide, Int32.sub_eq_add_neg]
theorem upd_ne {f : Nat → Int32} {k j : Nat} {x : Int32} (h : ¬ j = k) : upd f k x j = f j := by simp only [upd]; rw [if_neg h]
theorem upd_eq {f : Nat → Int32} {k : Nat} {x : Int32} : upd f k x k = x := by simp [upd]

set_option maxHeartbeats 4000000 in
set_option maxRecDepth 20000 in
theorem c_readNights (d : Nat) (dn : Nat → Int32) (x : Int32) (n : Nat) (hn : n ≤ 8) : FC YX1_readNights d [.ref 31, .int x, .int (nI n), .null, .null, .null] [(31, .inr (1, [.ref 32, .ref 33])), (32, .inl (false, 8, dn))] (some (.int (b2i ((rn n x dn).1)))) [(31, .inr (1, [.ref 32, .ref 33])), (32, .inl (false, 8, (rn n x dn).2))] := by
  intro hp
  refine E_iload_n dX1_readNights_0 rfl ?_
  refine E_istore_n (l2 := [.ref 31, .int x, .int (nI n), .int x, .null, .null]) dX1_readNights_1 rfl (by decide) rfl ?_
  refine E_iload_n dX1_readNights_2 rfl ?_
  refine E_iconst (v := 1) dX1_readNights_3 (by decide) ?_
  refine E_isub dX1_readNights_4 ?_
  refine E_istore (l2 := [.ref 31, .int x, .int (nI n), .int x, .int ((nI n) - 1), .null]) dX1_readNights_5 (by decide) rfl ?_
  have L : ∀ (m : Nat) (y : Int32) (f : Nat → Int32) (l5 : Value), m ≤ 8 → rn m y f = (rn n x dn) → E YX1_readNights d 7 [.ref 31, .int x, .int (nI n), .int y, .int (nI m - 1), l5] [] (hov hp [(31, .inr (1, [.ref 32, .ref 33])), (32, .inl (false, 8, f))]) (fun v h' => v = some (.int (b2i ((rn n x dn).1))) ∧ h' = hov hp [(31, .inr (1, [.ref 32, .ref 33])), (32, .inl (false, 8, (rn n x dn).2))]) := by
    intro m
    induction m with
    | zero =>
      intro y f l5 hm he
      refine E_iload dX1_readNights_7 rfl ?_
      refine E_if_lt (tgt := 52) dX1_readNights_9 (by decide) (fun _ => ?_) (fun c => absurd (by decide) c)
      refine E_iload_n dX1_readNights_52 rfl ?_
      refine E_if_ne (tgt := 60) dX1_readNights_53 (by decide) (fun c53 => ?_) (fun c53 => ?_)
      · refine E_iconst (v := 0) dX1_readNights_60 (by decide) ?_
        exact E_iretf dX1_readNights_61 rfl (b2i_nar _) (by rw [← he]; simp [rn, b2i, c53]) (by rw [← he]; rfl)
      · refine E_iconst (v := 1) dX1_readNights_56 (by decide) ?_
        refine E_goto (tgt := 61) dX1_readNights_57 (by decide) ?_
        exact E_iretf dX1_readNights_61 rfl (b2i_nar _) (by rw [← he]; simp [rn, b2i, c53]) (by rw [← he]; rfl)
    | succ m ih =>
      intro y f l5 hm he
      refine E_iload dX1_readNights_7 rfl ?_
      refine E_eqi (y := nI m) (nI_pred m) ?_
      refine E_if_lt (tgt := 52) dX1_readNights_9 (by decide) (fun c => absurd c (nI_pos (by omega))) (fun _ => ?_)
      refine E_iload dX1_readNights_12 rfl ?_
      refine E_eqi (y := nI m) (nI_pred m) ?_
      refine E_bipush (v := 8) dX1_readNights_14 (by decide) ?_
      refine E_icmp_ge (tgt := 52) dX1_readNights_16 (by decide) (fun c => absurd c (cI_nle (n := 8) rfl (by omega) (by decide))) (fun _ => ?_)
      refine E_iload_n dX1_readNights_19 rfl ?_
      refine E_bipush (v := 10) dX1_readNights_20 (by decide) ?_
      refine E_irem dX1_readNights_22 (by decide) ?_
      refine E_istore (l2 := [.ref 31, .int x, .int (nI n), .int y, .int (nI (m + 1) - 1), .int (rmI y 10)]) dX1_readNights_23 (by decide) rfl ?_
      refine E_iload dX1_readNights_25 rfl ?_
      refine E_if_gt (tgt := 32) dX1_readNights_27 (by decide) (fun c27 => ?_) (fun c27 => ?_)
      · rw [← Int32.not_le] at c27
        refine E_aload_n dX1_readNights_32 rfl ?_
        refine E_get dX1_readNights_33 fX1_9 (by decide) rfl rfl ?_
        refine E_iload dX1_readNights_36 rfl ?_
        refine E_eqi (y := nI m) (nI_pred m) ?_
        refine E_iload dX1_readNights_38 rfl ?_
        refine E_iastN (j := m) (f2 := upd f m (rmI y 10)) (L2 := [(31, .inr (1, [.ref 32, .ref 33])), (32, .inl (false, 8, (upd f m (rmI y 10))))]) dX1_readNights_40 (by decide) rfl (by omega) (by decide) rfl rfl ?_
        refine E_iload_n dX1_readNights_41 rfl ?_
        refine E_bipush (v := 10) dX1_readNights_42 (by decide) ?_
        refine E_idiv dX1_readNights_44 (by decide) ?_
        refine E_istore_n (l2 := [.ref 31, .int x, .int (nI n), .int (y / 10), .int (nI (m + 1) - 1), .int (rmI y 10)]) dX1_readNights_45 rfl (by decide) rfl ?_
        refine E_iinc (y := nI m - 1) (l2 := [.ref 31, .int x, .int (nI n), .int (y / 10), .int (nI m - 1), .int (rmI y 10)]) dX1_readNights_46 rfl (m1_add m) (by decide) rfl ?_
        refine E_goto (tgt := 7) dX1_readNights_49 (by decide) ?_
        exact ih _ _ _ (by omega) (by rw [← he, rn, if_neg c27])
      · rw [Int32.not_lt] at c27
        refine E_iconst (v := 0) dX1_readNights_30 (by decide) ?_
        exact E_iretf dX1_readNights_31 rfl (b2i_nar _) (by rw [← he, rn, if_pos c27]; rfl) (by rw [← he, rn, if_pos c27])
  exact L n x dn _ hn rfl

set_option maxHeartbeats 4000000 in
set_option maxRecDepth 20000 in
theorem c_readDays_neg (d : Nat) (dd : Nat → Int32) (z : Int64) (n : Nat) (hz : ¬ 0 ≤ z) : FC YX1_readDays d [.ref 31, .long z, .null, .int (nI n), .null, .null, .null] [(31, .inr (1, [.ref 32, .ref 33])), (33, .inl (false, 8, dd))] (some (.int (b2i false))) [(31, .inr (1, [.ref 32, .ref 33])), (33, .inl (false, 8, dd))] := by
  intro hp
  refine E_lload_n dX1_readDays_0 rfl ?_
  refine E_lconst (v := 0) dX1_readDays_1 (by decide) ?_
  refine E_lcmp dX1_readDays_2 ?_
  refine E_if_ge (tgt := 8) dX1_readDays_3 (by decide) (fun c => absurd ((lg_cmp_ge _ _).mp c) hz) (fun _ => ?_)
  refine E_iconst (v := 0) dX1_readDays_6 (by decide) ?_
  exact E_iretf dX1_readDays_7 rfl (b2i_nar _) rfl rfl

set_option maxHeartbeats 4000000 in
set_option maxRecDepth 20000 in
theorem c_readDays (d : Nat) (dd : Nat → Int32) (z : Int64) (hz : 0 ≤ z) (n : Nat) (hn : n ≤ 8) : FC YX1_readDays d [.ref 31, .long z, .null, .int (nI n), .null, .null, .null] [(31, .inr (1, [.ref 32, .ref 33])), (33, .inl (false, 8, dd))] (some (.int (b2i ((rd n z dd).1)))) [(31, .inr (1, [.ref 32, .ref 33])), (33, .inl (false, 8, (rd n z dd).2))] := by
  intro hp
  refine E_lload_n dX1_readDays_0 rfl ?_
  refine E_lconst (v := 0) dX1_readDays_1 (by decide) ?_
  refine E_lcmp dX1_readDays_2 ?_
  refine E_if_ge (tgt := 8) dX1_readDays_3 (by decide) (fun _ => ?_) (fun c => absurd ((lg_cmp_ge _ _).mpr hz) c)
  refine E_lload_n dX1_readDays_8 rfl ?_
  refine E_lstore (l2 := [.ref 31, .long z, .null, .int (nI n), .long z, .null, .null]) dX1_readDays_9 (by decide) rfl ?_
  refine E_iload_n dX1_readDays_11 rfl ?_
  refine E_iconst (v := 1) dX1_readDays_12 (by decide) ?_
  refine E_isub dX1_readDays_13 ?_
  refine E_istore (l2 := [.ref 31, .long z, .null, .int (nI n), .long z, .null, .int ((nI n) - 1)]) dX1_readDays_14 (by decide) rfl ?_
  have L : ∀ (m : Nat) (y : Int64) (f : Nat → Int32), m ≤ 8 → rd m y f = (rd n z dd) → E YX1_readDays d 16 [.ref 31, .long z, .null, .int (nI n), .long y, .null, .int (nI m - 1)] [] (hov hp [(31, .inr (1, [.ref 32, .ref 33])), (33, .inl (false, 8, f))]) (fun v h' => v = some (.int (b2i ((rd n z dd).1))) ∧ h' = hov hp [(31, .inr (1, [.ref 32, .ref 33])), (33, .inl (false, 8, (rd n z dd).2))]) := by
    intro m
    induction m with
    | zero =>
      intro y f hm he
      refine E_iload dX1_readDays_16 rfl ?_
      refine E_if_lt (tgt := 56) dX1_readDays_18 (by decide) (fun _ => ?_) (fun c => absurd (by decide) c)
      refine E_lload dX1_readDays_56 rfl ?_
      refine E_lconst (v := 0) dX1_readDays_58 (by decide) ?_
      refine E_lcmp dX1_readDays_59 ?_
      refine E_if_ne (tgt := 67) dX1_readDays_60 (by decide) (fun c60 => ?_) (fun c60 => ?_)
      · rw [lg_cmp_eq] at c60
        refine E_iconst (v := 0) dX1_readDays_67 (by decide) ?_
        exact E_iretf dX1_readDays_68 rfl (b2i_nar _) (by rw [← he]; simp [rd, b2i, c60]) (by rw [← he]; rfl)
      · rw [lg_cmp_eq] at c60
        refine E_iconst (v := 1) dX1_readDays_63 (by decide) ?_
        refine E_goto (tgt := 68) dX1_readDays_64 (by decide) ?_
        exact E_iretf dX1_readDays_68 rfl (b2i_nar _) (by rw [← he]; simp [rd, b2i, c60]) (by rw [← he]; rfl)
    | succ m ih =>
      intro y f hm he
      refine E_iload dX1_readDays_16 rfl ?_
      refine E_eqi (y := nI m) (nI_pred m) ?_
      refine E_if_lt (tgt := 56) dX1_readDays_18 (by decide) (fun c => absurd c (nI_pos (by omega))) (fun _ => ?_)
      refine E_iload dX1_readDays_21 rfl ?_
      refine E_eqi (y := nI m) (nI_pred m) ?_
      refine E_bipush (v := 8) dX1_readDays_23 (by decide) ?_
      refine E_icmp_ge (tgt := 56) dX1_readDays_25 (by decide) (fun c => absurd c (cI_nle (n := 8) rfl (by omega) (by decide))) (fun _ => ?_)
      refine E_aload_n dX1_readDays_28 rfl ?_
      refine E_get dX1_readDays_29 fX1_15 (by decide) rfl rfl ?_
      refine E_iload dX1_readDays_32 rfl ?_
      refine E_eqi (y := nI m) (nI_pred m) ?_
      refine E_lload dX1_readDays_34 rfl ?_
      refine E_ldc2 dX1_readDays_36 qX1_18 ?_
      refine E_lrem dX1_readDays_39 (by decide) ?_
      refine E_l2i dX1_readDays_40 ?_
      refine E_iastN (j := m) (f2 := upd f m (Int64.toInt32 (rmL y 100))) (L2 := [(31, .inr (1, [.ref 32, .ref 33])), (33, .inl (false, 8, (upd f m (Int64.toInt32 (rmL y 100)))))]) dX1_readDays_41 (by decide) rfl (by omega) (by decide) rfl rfl ?_
      refine E_lload dX1_readDays_42 rfl ?_
      refine E_ldc2 dX1_readDays_44 qX1_18 ?_
      refine E_ldiv dX1_readDays_47 (by decide) ?_
      refine E_lstore (l2 := [.ref 31, .long z, .null, .int (nI n), .long (y / 100), .null, .int (nI (m + 1) - 1)]) dX1_readDays_48 (by decide) rfl ?_
      refine E_iinc (y := nI m - 1) (l2 := [.ref 31, .long z, .null, .int (nI n), .long (y / 100), .null, .int (nI m - 1)]) dX1_readDays_50 rfl (m1_add m) (by decide) rfl ?_
      refine E_goto (tgt := 16) dX1_readDays_53 (by decide) ?_
      exact ih _ _ (by omega) (by rw [← he, rd])
  exact L n z dd hn rfl

set_option maxHeartbeats 4000000 in
set_option maxRecDepth 20000 in
theorem c_nightsUntil (d : Nat) (n : Nat) (hn : n ≤ 8) (dn dd : Nat → Int32) (dv : Nat → Nat) (hdd : ∀ j, j < n → dd j = nI (dv j) ∧ dv j ≤ 99) (nv : Nat → Nat) (hdn : ∀ j, j < n → dn j = nI (nv j) ∧ nv j ≤ 9) (x : Int32) (c : Nat) (hc : c < n) : FC YX1_nightsUntil (d + 1) [.ref 31, .int (nI (dv c)), .int x, .int (nI n), .null, .null] [(31, .inr (1, [.ref 32, .ref 33])), (32, .inl (false, 8, dn)), (33, .inl (false, 8, dd))] (some (.int (nI (smD nv dv x c n)))) [(31, .inr (1, [.ref 32, .ref 33])), (32, .inl (false, 8, dn)), (33, .inl (false, 8, dd))] := by
  intro hp
  refine E_iconst (v := 0) dX1_nightsUntil_0 (by decide) ?_
  refine E_istore (l2 := [.ref 31, .int (nI (dv c)), .int x, .int (nI n), .int 0, .null]) dX1_nightsUntil_1 (by decide) rfl ?_
  refine E_iconst (v := 0) dX1_nightsUntil_3 (by decide) ?_
  refine E_istore (l2 := [.ref 31, .int (nI (dv c)), .int x, .int (nI n), .int 0, .int 0]) dX1_nightsUntil_4 (by decide) rfl ?_
  have hdc := hdd c hc
  have L : ∀ j, j ≤ n → E YX1_nightsUntil (d + 1) 6 [.ref 31, .int (nI (dv c)), .int x, .int (nI n), .int (nI (smD nv dv x c j)), .int (nI j)] [] (hov hp [(31, .inr (1, [.ref 32, .ref 33])), (32, .inl (false, 8, dn)), (33, .inl (false, 8, dd))]) (fun v h' => v = some (.int (nI (smD nv dv x c n))) ∧ h' = hov hp [(31, .inr (1, [.ref 32, .ref 33])), (32, .inl (false, 8, dn)), (33, .inl (false, 8, dd))]) := by
    refine down n ?_ ?_
    · refine E_iload dX1_nightsUntil_6 rfl ?_
      refine E_iload_n dX1_nightsUntil_8 rfl ?_
      refine E_icmp_ge (tgt := 57) dX1_nightsUntil_9 (by decide) (fun _ => ?_) (fun c => absurd (nI_le (Nat.le_refl _) (by omega)) c)
      refine E_iload dX1_nightsUntil_57 rfl ?_
      exact E_iretf dX1_nightsUntil_59 rfl rfl rfl rfl
    · intro j hj ih
      have hdj := hdd j hj
      refine E_iload dX1_nightsUntil_6 rfl ?_
      refine E_iload_n dX1_nightsUntil_8 rfl ?_
      refine E_icmp_ge (tgt := 57) dX1_nightsUntil_9 (by decide) (fun c => absurd c (nI_ge hj (by omega))) (fun _ => ?_)
      refine E_iload dX1_nightsUntil_12 rfl ?_
      refine E_bipush (v := 8) dX1_nightsUntil_14 (by decide) ?_
      refine E_icmp_ge (tgt := 57) dX1_nightsUntil_16 (by decide) (fun c => absurd c (cI_nle (n := 8) rfl (by omega) (by decide))) (fun _ => ?_)
      refine E_iload_n dX1_nightsUntil_19 rfl ?_
      refine E_iload dX1_nightsUntil_20 rfl ?_
      refine E_callN (As := [.int x, .int (nI j)]) (l' := [.int x, .int (nI j)]) (st := []) dX1_nightsUntil_22 nX1_30 sX6_hasBit MX6_hasBit rfl rfl (Nat.le_of_ble_eq_true rfl) (FC.use (c_hasBit d _ _) rfl (L2 := [(31, .inr (1, [.ref 32, .ref 33])), (32, .inl (false, 8, dn)), (33, .inl (false, 8, dd))]) rfl) (Nat.le_of_ble_eq_true rfl) (fun _ _ hq9 => E_fgo ?_ hq9)
      show E _ _ 25 [.ref 31, .int (nI (dv c)), .int x, .int (nI n), .int (nI (smD nv dv x c j)), .int (nI j)] [.int (b2i (hbt x (nI j)))] (hov hp [(31, .inr (1, [.ref 32, .ref 33])), (32, .inl (false, 8, dn)), (33, .inl (false, 8, dd))]) _
      refine E_if_eq (tgt := 51) dX1_nightsUntil_25 (by decide) (fun c25 => ?_) (fun c25 => ?_)
      · have c25 := b2i_e0 c25
        refine E_iinc (y := nI (j + 1)) (l2 := [.ref 31, .int (nI (dv c)), .int x, .int (nI n), .int (nI (smD nv dv x c j)), .int (nI (j + 1))]) dX1_nightsUntil_51 rfl (nI_1 _) (by decide) rfl ?_
        refine E_goto (tgt := 6) dX1_nightsUntil_54 (by decide) ?_
        rw [smD_n (by rw [c25]; rfl)] at ih
        exact ih
      · have c25 := b2i_n0 c25
        refine E_aload_n dX1_nightsUntil_28 rfl ?_
        refine E_get dX1_nightsUntil_29 fX1_15 (by decide) rfl rfl ?_
        refine E_iload dX1_nightsUntil_32 rfl ?_
        refine E_ialdN (j := j) dX1_nightsUntil_34 (by decide) rfl (by omega) (by decide) ?_
        refine E_eqi (y := nI (dv j)) hdj.1 ?_
        refine E_iload_n dX1_nightsUntil_35 rfl ?_
        refine E_icmp_gt (tgt := 51) dX1_nightsUntil_36 (by decide) (fun c36 => ?_) (fun c36 => ?_)
        · have cb36 : ¬ dv j ≤ dv c := fun h => nI_nlt h (by omega) c36
          refine E_iinc (y := nI (j + 1)) (l2 := [.ref 31, .int (nI (dv c)), .int x, .int (nI n), .int (nI (smD nv dv x c j)), .int (nI (j + 1))]) dX1_nightsUntil_51 rfl (nI_1 _) (by decide) rfl ?_
          refine E_goto (tgt := 6) dX1_nightsUntil_54 (by decide) ?_
          rw [smD_n (by rw [decide_eq_false cb36, Bool.and_false])] at ih
          exact ih
        · have cb36 : dv j ≤ dv c := Nat.le_of_not_lt (fun h => c36 (nI_lt h (by omega)))
          refine E_iload dX1_nightsUntil_39 rfl ?_
          refine E_aload_n dX1_nightsUntil_41 rfl ?_
          refine E_get dX1_nightsUntil_42 fX1_9 (by decide) rfl rfl ?_
          refine E_iload dX1_nightsUntil_45 rfl ?_
          refine E_ialdN (j := j) dX1_nightsUntil_47 (by decide) rfl (by omega) (by decide) ?_
          refine E_eqi (y := nI (nv j)) ((hdn j hj).1) ?_
          refine E_iadd dX1_nightsUntil_48 ?_
          refine E_eqi (y := nI (smD nv dv x c (j + 1))) (smD_t c25 cb36) ?_
          refine E_istore (l2 := [.ref 31, .int (nI (dv c)), .int x, .int (nI n), .int (nI (smD nv dv x c (j + 1))), .int (nI j)]) dX1_nightsUntil_49 (by decide) rfl ?_
          refine E_iinc (y := nI (j + 1)) (l2 := [.ref 31, .int (nI (dv c)), .int x, .int (nI n), .int (nI (smD nv dv x c (j + 1))), .int (nI (j + 1))]) dX1_nightsUntil_51 rfl (nI_1 _) (by decide) rfl ?_
          refine E_goto (tgt := 6) dX1_nightsUntil_54 (by decide) ?_
          exact ih
  exact L 0 (Nat.zero_le _)

set_option maxHeartbeats 4000000 in
set_option maxRecDepth 20000 in
theorem c_areInTime (d : Nat) (n : Nat) (hn : n ≤ 8) (dn dd : Nat → Int32) (dv : Nat → Nat) (hdd : ∀ j, j < n → dd j = nI (dv j) ∧ dv j ≤ 99) (nv : Nat → Nat) (hdn : ∀ j, j < n → dn j = nI (nv j) ∧ nv j ≤ 9) (x : Int32) : FC YX1_areInTime (d + 2) [.ref 31, .int x, .int (nI n), .null] [(31, .inr (1, [.ref 32, .ref 33])), (32, .inl (false, 8, dn)), (33, .inl (false, 8, dd))] (some (.int (b2i (allB (cbP nv dv n x) n)))) [(31, .inr (1, [.ref 32, .ref 33])), (32, .inl (false, 8, dn)), (33, .inl (false, 8, dd))] := by
  intro hp
  refine E_iconst (v := 0) dX1_areInTime_0 (by decide) ?_
  refine E_istore_n (l2 := [.ref 31, .int x, .int (nI n), .int 0]) dX1_areInTime_1 rfl (by decide) rfl ?_
  have L : ∀ i, i ≤ n → (∀ k, k < i → cbP nv dv n x k = true) → E YX1_areInTime (d + 2) 2 [.ref 31, .int x, .int (nI n), .int (nI i)] [] (hov hp [(31, .inr (1, [.ref 32, .ref 33])), (32, .inl (false, 8, dn)), (33, .inl (false, 8, dd))]) (fun v h' => v = some (.int (b2i (allB (cbP nv dv n x) n))) ∧ h' = hov hp [(31, .inr (1, [.ref 32, .ref 33])), (32, .inl (false, 8, dn)), (33, .inl (false, 8, dd))]) := by
    refine down n ?_ ?_
    · intro hall
      refine E_iload_n dX1_areInTime_2 rfl ?_
      refine E_iload_n dX1_areInTime_3 rfl ?_
      refine E_icmp_ge (tgt := 50) dX1_areInTime_4 (by decide) (fun _ => ?_) (fun c => absurd (nI_le (Nat.le_refl _) (by omega)) c)
      refine E_iconst (v := 1) dX1_areInTime_50 (by decide) ?_
      exact E_iretf dX1_areInTime_51 rfl (b2i_nar _) (b2i_t (allB_t hall)) rfl
    · intro i hi ih hall
      have hs9 := smD_le (dv := dv) (x := x) (c := i) (fun j hj => (hdn j hj).2) n (Nat.le_refl _)
      have hd9 := hdd i hi
      refine E_iload_n dX1_areInTime_2 rfl ?_
      refine E_iload_n dX1_areInTime_3 rfl ?_
      refine E_icmp_ge (tgt := 50) dX1_areInTime_4 (by decide) (fun c => absurd c (nI_ge hi (by omega))) (fun _ => ?_)
      refine E_iload_n dX1_areInTime_7 rfl ?_
      refine E_bipush (v := 8) dX1_areInTime_8 (by decide) ?_
      refine E_icmp_ge (tgt := 50) dX1_areInTime_10 (by decide) (fun c => absurd c (cI_nle (n := 8) rfl (by omega) (by decide))) (fun _ => ?_)
      refine E_iload_n dX1_areInTime_13 rfl ?_
      refine E_iload_n dX1_areInTime_14 rfl ?_
      refine E_callN (As := [.int x, .int (nI i)]) (l' := [.int x, .int (nI i)]) (st := []) dX1_areInTime_15 nX1_30 sX6_hasBit MX6_hasBit rfl rfl (Nat.le_of_ble_eq_true rfl) (FC.use (c_hasBit (d + 1) _ _) rfl (L2 := [(31, .inr (1, [.ref 32, .ref 33])), (32, .inl (false, 8, dn)), (33, .inl (false, 8, dd))]) rfl) (Nat.le_of_ble_eq_true rfl) (fun _ _ hq9 => E_fgo ?_ hq9)
      show E _ _ 18 [.ref 31, .int x, .int (nI n), .int (nI i)] [.int (b2i (hbt x (nI i)))] (hov hp [(31, .inr (1, [.ref 32, .ref 33])), (32, .inl (false, 8, dn)), (33, .inl (false, 8, dd))]) _
      refine E_if_eq (tgt := 44) dX1_areInTime_18 (by decide) (fun c18 => ?_) (fun c18 => ?_)
      · have c18 := b2i_e0 c18
        refine E_iinc (y := nI (i + 1)) (l2 := [.ref 31, .int x, .int (nI n), .int (nI (i + 1))]) dX1_areInTime_44 rfl (nI_1 _) (by decide) rfl ?_
        refine E_goto (tgt := 2) dX1_areInTime_47 (by decide) ?_
        exact ih (fun k hk => by rcases Nat.lt_succ_iff_lt_or_eq.mp hk with h | h; exact hall k h; subst h; exact (by rw [cbP, c18]; rfl))
      · have c18 := b2i_n0 c18
        refine E_aload_n dX1_areInTime_21 rfl ?_
        refine E_aload_n dX1_areInTime_22 rfl ?_
        refine E_get dX1_areInTime_23 fX1_15 (by decide) rfl rfl ?_
        refine E_iload_n dX1_areInTime_26 rfl ?_
        refine E_ialdN (j := i) dX1_areInTime_27 (by decide) rfl (by omega) (by decide) ?_
        refine E_eqi (y := nI (dv i)) hd9.1 ?_
        refine E_iload_n dX1_areInTime_28 rfl ?_
        refine E_iload_n dX1_areInTime_29 rfl ?_
        refine E_callV (As := [.int (nI (dv i)), .int x, .int (nI n)]) (l' := [.ref 31, .int (nI (dv i)), .int x, .int (nI n), .null, .null]) (st := []) dX1_areInTime_30 kX1_33 iX1_nightsUntil vX1_nightsUntil (by decide) rfl rfl MX1_nightsUntil rfl rfl (Nat.le_of_ble_eq_true rfl) (FC.use (c_nightsUntil d n hn dn dd dv hdd nv hdn x i hi) rfl (L2 := [(31, .inr (1, [.ref 32, .ref 33])), (32, .inl (false, 8, dn)), (33, .inl (false, 8, dd))]) rfl) (Nat.le_of_ble_eq_true rfl) (fun _ _ hq9 => E_fgo ?_ hq9)
        show E _ _ 33 [.ref 31, .int x, .int (nI n), .int (nI i)] [.int (nI (smD nv dv x i n))] (hov hp [(31, .inr (1, [.ref 32, .ref 33])), (32, .inl (false, 8, dn)), (33, .inl (false, 8, dd))]) _
        refine E_aload_n dX1_areInTime_33 rfl ?_
        refine E_get dX1_areInTime_34 fX1_15 (by decide) rfl rfl ?_
        refine E_iload_n dX1_areInTime_37 rfl ?_
        refine E_ialdN (j := i) dX1_areInTime_38 (by decide) rfl (by omega) (by decide) ?_
        refine E_eqi (y := nI (dv i)) hd9.1 ?_
        refine E_icmp_le (tgt := 44) dX1_areInTime_39 (by decide) (fun c39 => ?_) (fun c39 => ?_)
        · have cb39 : smD nv dv x i n ≤ dv i := (nI_leI (by omega) (by omega)).mp c39
          refine E_iinc (y := nI (i + 1)) (l2 := [.ref 31, .int x, .int (nI n), .int (nI (i + 1))]) dX1_areInTime_44 rfl (nI_1 _) (by decide) rfl ?_
          refine E_goto (tgt := 2) dX1_areInTime_47 (by decide) ?_
          exact ih (fun k hk => by rcases Nat.lt_succ_iff_lt_or_eq.mp hk with h | h; exact hall k h; subst h; exact (by rw [cbP, c18, decide_eq_true cb39]; rfl))
        · have cb39 : ¬ smD nv dv x i n ≤ dv i := fun h => c39 (nI_le h (by omega))
          refine E_iconst (v := 0) dX1_areInTime_42 (by decide) ?_
          exact E_iretf dX1_areInTime_43 rfl (b2i_nar _) (b2i_f (allB_f hi (by rw [cbP, c18, decide_eq_false cb39]; rfl))) rfl
  exact L 0 (Nat.zero_le _) (fun k hk => absurd hk (Nat.not_lt_zero _))

set_option maxHeartbeats 4000000 in
set_option maxRecDepth 20000 in
theorem c_most (d : Nat) (n : Nat) (hn : n ≤ 8) (dn dd : Nat → Int32) (dv : Nat → Nat) (hdd : ∀ j, j < n → dd j = nI (dv j) ∧ dv j ≤ 99) (nv : Nat → Nat) (hdn : ∀ j, j < n → dn j = nI (nv j) ∧ nv j ≤ 9) : FC YX1_mostInTime (d + 3) [.ref 31, .int (nI n), .null, .null] [(31, .inr (1, [.ref 32, .ref 33])), (32, .inl (false, 8, dn)), (33, .inl (false, 8, dd))] (some (.int (mit (fun x => allB (cbP nv dv n x) n) (2 ^ n - 1)))) [(31, .inr (1, [.ref 32, .ref 33])), (32, .inl (false, 8, dn)), (33, .inl (false, 8, dd))] := by
  intro hp
  refine E_iconst (v := 0) dX1_mostInTime_0 (by decide) ?_
  refine E_istore_n (l2 := [.ref 31, .int (nI n), .int 0, .null]) dX1_mostInTime_1 rfl (by decide) rfl ?_
  refine E_iconst (v := 1) dX1_mostInTime_2 (by decide) ?_
  refine E_istore_n (l2 := [.ref 31, .int (nI n), .int 0, .int 1]) dX1_mostInTime_3 rfl (by decide) rfl ?_
  have hpw : 1 ≤ 2 ^ n := Nat.pos_of_ne_zero (by simp)
  have hpw2 : 2 ^ n ≤ 2 ^ 8 := Nat.pow_le_pow_right (by decide) hn
  have L : ∀ i, i ≤ 2 ^ n - 1 → E YX1_mostInTime (d + 3) 4 [.ref 31, .int (nI n), .int (mit (fun x => allB (cbP nv dv n x) n) i), .int (nI (i + 1))] [] (hov hp [(31, .inr (1, [.ref 32, .ref 33])), (32, .inl (false, 8, dn)), (33, .inl (false, 8, dd))]) (fun v h' => v = some (.int (mit (fun x => allB (cbP nv dv n x) n) (2 ^ n - 1))) ∧ h' = hov hp [(31, .inr (1, [.ref 32, .ref 33])), (32, .inl (false, 8, dn)), (33, .inl (false, 8, dd))]) := by
    refine down (2 ^ n - 1) ?_ ?_
    · refine E_iload_n dX1_mostInTime_4 rfl ?_
      refine E_iconst (v := 1) dX1_mostInTime_5 (by decide) ?_
      refine E_iload_n dX1_mostInTime_6 rfl ?_
      refine E_ishl dX1_mostInTime_7 ?_
      refine E_eqi (y := nI (2 ^ n)) (shl8 n (by omega)) ?_
      refine E_icmp_ge (tgt := 39) dX1_mostInTime_8 (by decide) (fun _ => ?_) (fun c => absurd (nI_le (by omega) (by omega)) c)
      refine E_iload_n dX1_mostInTime_39 rfl ?_
      exact E_iretf dX1_mostInTime_40 rfl rfl rfl rfl
    · intro i hi ih
      refine E_iload_n dX1_mostInTime_4 rfl ?_
      refine E_iconst (v := 1) dX1_mostInTime_5 (by decide) ?_
      refine E_iload_n dX1_mostInTime_6 rfl ?_
      refine E_ishl dX1_mostInTime_7 ?_
      refine E_eqi (y := nI (2 ^ n)) (shl8 n (by omega)) ?_
      refine E_icmp_ge (tgt := 39) dX1_mostInTime_8 (by decide) (fun c => absurd c (nI_ge (by omega) (by omega))) (fun _ => ?_)
      refine E_iload_n dX1_mostInTime_11 rfl ?_
      refine E_callS (As := [.int (nI (i + 1))]) (l' := [.int (nI (i + 1))]) (st := []) dX1_mostInTime_12 kX1_20 sJ6_bitCount_0f7a4 MJ6_bitCount_0f7a4 rfl rfl (Nat.le_of_ble_eq_true rfl) (FC.use (c_bitCount (d + 2) _) rfl (L2 := [(31, .inr (1, [.ref 32, .ref 33])), (32, .inl (false, 8, dn)), (33, .inl (false, 8, dd))]) rfl) (Nat.le_of_ble_eq_true rfl) (fun _ _ hq9 => E_fgo ?_ hq9)
      show E _ _ 15 [.ref 31, .int (nI n), .int (mit (fun x => allB (cbP nv dv n x) n) i), .int (nI (i + 1))] [.int (bcI (nI (i + 1)))] (hov hp [(31, .inr (1, [.ref 32, .ref 33])), (32, .inl (false, 8, dn)), (33, .inl (false, 8, dd))]) _
      refine E_iload_n dX1_mostInTime_15 rfl ?_
      refine E_callS (As := [.int (mit (fun x => allB (cbP nv dv n x) n) i)]) (l' := [.int (mit (fun x => allB (cbP nv dv n x) n) i)]) (st := [.int (bcI (nI (i + 1)))]) dX1_mostInTime_16 kX1_20 sJ6_bitCount_0f7a4 MJ6_bitCount_0f7a4 rfl rfl (Nat.le_of_ble_eq_true rfl) (FC.use (c_bitCount (d + 2) _) rfl (L2 := [(31, .inr (1, [.ref 32, .ref 33])), (32, .inl (false, 8, dn)), (33, .inl (false, 8, dd))]) rfl) (Nat.le_of_ble_eq_true rfl) (fun _ _ hq9 => E_fgo ?_ hq9)
      show E _ _ 19 [.ref 31, .int (nI n), .int (mit (fun x => allB (cbP nv dv n x) n) i), .int (nI (i + 1))] [.int (bcI (mit (fun x => allB (cbP nv dv n x) n) i)), .int (bcI (nI (i + 1)))] (hov hp [(31, .inr (1, [.ref 32, .ref 33])), (32, .inl (false, 8, dn)), (33, .inl (false, 8, dd))]) _
      refine E_icmp_le (tgt := 33) dX1_mostInTime_19 (by decide) (fun c19 => ?_) (fun c19 => ?_)
      · rw [← Int32.not_lt] at c19
        refine E_iinc (y := nI (i + 1 + 1)) (l2 := [.ref 31, .int (nI n), .int (mit (fun x => allB (cbP nv dv n x) n) i), .int (nI (i + 1 + 1))]) dX1_mostInTime_33 rfl (nI_1 _) (by decide) rfl ?_
        refine E_goto (tgt := 4) dX1_mostInTime_36 (by decide) ?_
        rw [mit_a c19] at ih
        exact ih
      · rw [Int32.not_le] at c19
        refine E_aload_n dX1_mostInTime_22 rfl ?_
        refine E_iload_n dX1_mostInTime_23 rfl ?_
        refine E_iload_n dX1_mostInTime_24 rfl ?_
        refine E_callV (As := [.int (nI (i + 1)), .int (nI n)]) (l' := [.ref 31, .int (nI (i + 1)), .int (nI n), .null]) (st := []) dX1_mostInTime_25 kX1_26 iX1_areInTime vX1_areInTime (by decide) rfl rfl MX1_areInTime rfl rfl (Nat.le_of_ble_eq_true rfl) (FC.use (c_areInTime d n hn dn dd dv hdd nv hdn _) rfl (L2 := [(31, .inr (1, [.ref 32, .ref 33])), (32, .inl (false, 8, dn)), (33, .inl (false, 8, dd))]) rfl) (Nat.le_of_ble_eq_true rfl) (fun _ _ hq9 => E_fgo ?_ hq9)
        show E _ _ 28 [.ref 31, .int (nI n), .int (mit (fun x => allB (cbP nv dv n x) n) i), .int (nI (i + 1))] [.int (b2i (allB (cbP nv dv n (nI (i + 1))) n))] (hov hp [(31, .inr (1, [.ref 32, .ref 33])), (32, .inl (false, 8, dn)), (33, .inl (false, 8, dd))]) _
        refine E_if_eq (tgt := 33) dX1_mostInTime_28 (by decide) (fun c28 => ?_) (fun c28 => ?_)
        · have c28 := b2i_e0 c28
          refine E_iinc (y := nI (i + 1 + 1)) (l2 := [.ref 31, .int (nI n), .int (mit (fun x => allB (cbP nv dv n x) n) i), .int (nI (i + 1 + 1))]) dX1_mostInTime_33 rfl (nI_1 _) (by decide) rfl ?_
          refine E_goto (tgt := 4) dX1_mostInTime_36 (by decide) ?_
          rw [mit_b (ok := (fun x => allB (cbP nv dv n x) n)) c28] at ih
          exact ih
        · have c28 := b2i_n0 c28
          refine E_iload_n dX1_mostInTime_31 rfl ?_
          refine E_istore_n (l2 := [.ref 31, .int (nI n), .int (nI (i + 1)), .int (nI (i + 1))]) dX1_mostInTime_32 rfl (by decide) rfl ?_
          refine E_iinc (y := nI (i + 1 + 1)) (l2 := [.ref 31, .int (nI n), .int (nI (i + 1)), .int (nI (i + 1 + 1))]) dX1_mostInTime_33 rfl (nI_1 _) (by decide) rfl ?_
          refine E_goto (tgt := 4) dX1_mostInTime_36 (by decide) ?_
          rw [mit_t (ok := (fun x => allB (cbP nv dv n x) n)) c19 c28] at ih
          exact ih
  exact L 0 (by omega)

set_option maxHeartbeats 4000000 in
set_option maxRecDepth 20000 in
theorem t_due_o0 (d : Nat) (rk : Nat) (x n w : Int32) (z : Int64) (h0 : inL (Int32.toInt64 n) 1 8 = false) : FC YX6_due (d + 4) [.ref 0, .int x, .long z, .null, .int n, .int w, .null] [(0, .inr (6, [.ref 1, .ref 5, .ref 7, .ref 10, .ref 18, .ref 26, .ref 31, .ref 35, .ref 37, .int (nI rk)]))] (some (.int (-2))) [(0, .inr (6, [.ref 1, .ref 5, .ref 7, .ref 10, .ref 18, .ref 26, .ref 31, .ref 35, .ref 37, .int (nI rk)]))] := by
  intro hp
  refine E_iload dX6_due_0 rfl ?_
  refine E_i2l dX6_due_2 ?_
  refine E_lconst (v := 1) dX6_due_3 (by decide) ?_
  refine E_ldc2 dX6_due_4 qX6_177 ?_
  refine E_callS (As := [.long (Int32.toInt64 n), .long 1, .long 8]) (l' := [.long (Int32.toInt64 n), .null, .long 1, .null, .long 8, .null]) (st := []) dX6_due_7 kX6_73 sX6_isIn MX6_isIn rfl rfl (Nat.le_of_ble_eq_true rfl) (FC.use (c_isIn (d + 3) _ _ _) rfl (L2 := [(0, .inr (6, [.ref 1, .ref 5, .ref 7, .ref 10, .ref 18, .ref 26, .ref 31, .ref 35, .ref 37, .int (nI rk)]))]) rfl) (Nat.le_of_ble_eq_true rfl) (fun _ _ hq9 => E_fgo ?_ hq9)
  show E _ _ 10 [.ref 0, .int x, .long z, .null, .int n, .int w, .null] [.int (b2i (inL (Int32.toInt64 n) 1 8))] (hov hp [(0, .inr (6, [.ref 1, .ref 5, .ref 7, .ref 10, .ref 18, .ref 26, .ref 31, .ref 35, .ref 37, .int (nI rk)]))]) _
  refine E_if_eq (tgt := 24) dX6_due_10 (by decide) (fun _ => ?_) (fun c => (b2i_x0 h0 c).elim)
  refine E_bipush (v := (-2)) dX6_due_24 (by decide) ?_
  exact E_iretf dX6_due_26 rfl rfl rfl rfl

set_option maxHeartbeats 4000000 in
set_option maxRecDepth 20000 in
theorem t_due_o1 (d : Nat) (rk : Nat) (x n w : Int32) (z : Int64) (h0 : inL (Int32.toInt64 n) 1 8 = true) (h1 : inL (Int32.toInt64 w) 0 1 = false) : FC YX6_due (d + 4) [.ref 0, .int x, .long z, .null, .int n, .int w, .null] [(0, .inr (6, [.ref 1, .ref 5, .ref 7, .ref 10, .ref 18, .ref 26, .ref 31, .ref 35, .ref 37, .int (nI rk)]))] (some (.int (-2))) [(0, .inr (6, [.ref 1, .ref 5, .ref 7, .ref 10, .ref 18, .ref 26, .ref 31, .ref 35, .ref 37, .int (nI rk)]))] := by
  intro hp
  refine E_iload dX6_due_0 rfl ?_
  refine E_i2l dX6_due_2 ?_
  refine E_lconst (v := 1) dX6_due_3 (by decide) ?_
  refine E_ldc2 dX6_due_4 qX6_177 ?_
  refine E_callS (As := [.long (Int32.toInt64 n), .long 1, .long 8]) (l' := [.long (Int32.toInt64 n), .null, .long 1, .null, .long 8, .null]) (st := []) dX6_due_7 kX6_73 sX6_isIn MX6_isIn rfl rfl (Nat.le_of_ble_eq_true rfl) (FC.use (c_isIn (d + 3) _ _ _) rfl (L2 := [(0, .inr (6, [.ref 1, .ref 5, .ref 7, .ref 10, .ref 18, .ref 26, .ref 31, .ref 35, .ref 37, .int (nI rk)]))]) rfl) (Nat.le_of_ble_eq_true rfl) (fun _ _ hq9 => E_fgo ?_ hq9)
  show E _ _ 10 [.ref 0, .int x, .long z, .null, .int n, .int w, .null] [.int (b2i (inL (Int32.toInt64 n) 1 8))] (hov hp [(0, .inr (6, [.ref 1, .ref 5, .ref 7, .ref 10, .ref 18, .ref 26, .ref 31, .ref 35, .ref 37, .int (nI rk)]))]) _
  refine E_if_eq (tgt := 24) dX6_due_10 (by decide) (fun c => (b2i_x1 h0 c).elim) (fun _ => ?_)
  refine E_iload dX6_due_13 rfl ?_
  refine E_i2l dX6_due_15 ?_
  refine E_lconst (v := 0) dX6_due_16 (by decide) ?_
  refine E_lconst (v := 1) dX6_due_17 (by decide) ?_
  refine E_callS (As := [.long (Int32.toInt64 w), .long 0, .long 1]) (l' := [.long (Int32.toInt64 w), .null, .long 0, .null, .long 1, .null]) (st := []) dX6_due_18 kX6_73 sX6_isIn MX6_isIn rfl rfl (Nat.le_of_ble_eq_true rfl) (FC.use (c_isIn (d + 3) _ _ _) rfl (L2 := [(0, .inr (6, [.ref 1, .ref 5, .ref 7, .ref 10, .ref 18, .ref 26, .ref 31, .ref 35, .ref 37, .int (nI rk)]))]) rfl) (Nat.le_of_ble_eq_true rfl) (fun _ _ hq9 => E_fgo ?_ hq9)
  show E _ _ 21 [.ref 0, .int x, .long z, .null, .int n, .int w, .null] [.int (b2i (inL (Int32.toInt64 w) 0 1))] (hov hp [(0, .inr (6, [.ref 1, .ref 5, .ref 7, .ref 10, .ref 18, .ref 26, .ref 31, .ref 35, .ref 37, .int (nI rk)]))]) _
  refine E_if_ne (tgt := 27) dX6_due_21 (by decide) (fun c => (b2i_x0 h1 c).elim) (fun _ => ?_)
  refine E_bipush (v := (-2)) dX6_due_24 (by decide) ?_
  exact E_iretf dX6_due_26 rfl rfl rfl rfl

set_option maxHeartbeats 4000000 in
set_option maxRecDepth 20000 in
theorem t_due_n (d : Nat) (rk : Nat) (dn dd : Nat → Int32) (x : Int32) (z : Int64) (n : Nat) (hn : n ≤ 8) (w : Int32) (h0 : inL (Int32.toInt64 (nI n)) 1 8 = true) (h1 : inL (Int32.toInt64 w) 0 1 = true) (hr : (rn n x dn).1 = false) : FC YX6_due (d + 4) [.ref 0, .int x, .long z, .null, .int (nI n), .int w, .null] [(0, .inr (6, [.ref 1, .ref 5, .ref 7, .ref 10, .ref 18, .ref 26, .ref 31, .ref 35, .ref 37, .int (nI rk)])), (31, .inr (1, [.ref 32, .ref 33])), (32, .inl (false, 8, dn)), (33, .inl (false, 8, dd))] (some (.int (-2))) [(0, .inr (6, [.ref 1, .ref 5, .ref 7, .ref 10, .ref 18, .ref 26, .ref 31, .ref 35, .ref 37, .int (nI rk)])), (31, .inr (1, [.ref 32, .ref 33])), (32, .inl (false, 8, (rn n x dn).2)), (33, .inl (false, 8, dd))] := by
  intro hp
  refine E_iload dX6_due_0 rfl ?_
  refine E_i2l dX6_due_2 ?_
  refine E_lconst (v := 1) dX6_due_3 (by decide) ?_
  refine E_ldc2 dX6_due_4 qX6_177 ?_
  refine E_callS (As := [.long (Int32.toInt64 (nI n)), .long 1, .long 8]) (l' := [.long (Int32.toInt64 (nI n)), .null, .long 1, .null, .long 8, .null]) (st := []) dX6_due_7 kX6_73 sX6_isIn MX6_isIn rfl rfl (Nat.le_of_ble_eq_true rfl) (FC.use (c_isIn (d + 3) _ _ _) rfl (L2 := [(0, .inr (6, [.ref 1, .ref 5, .ref 7, .ref 10, .ref 18, .ref 26, .ref 31, .ref 35, .ref 37, .int (nI rk)])), (31, .inr (1, [.ref 32, .ref 33])), (32, .inl (false, 8, dn)), (33, .inl (false, 8, dd))]) rfl) (Nat.le_of_ble_eq_true rfl) (fun _ _ hq9 => E_fgo ?_ hq9)
  show E _ _ 10 [.ref 0, .int x, .long z, .null, .int (nI n), .int w, .null] [.int (b2i (inL (Int32.toInt64 (nI n)) 1 8))] (hov hp [(0, .inr (6, [.ref 1, .ref 5, .ref 7, .ref 10, .ref 18, .ref 26, .ref 31, .ref 35, .ref 37, .int (nI rk)])), (31, .inr (1, [.ref 32, .ref 33])), (32, .inl (false, 8, dn)), (33, .inl (false, 8, dd))]) _
  refine E_if_eq (tgt := 24) dX6_due_10 (by decide) (fun c => (b2i_x1 h0 c).elim) (fun _ => ?_)
  refine E_iload dX6_due_13 rfl ?_
  refine E_i2l dX6_due_15 ?_
  refine E_lconst (v := 0) dX6_due_16 (by decide) ?_
  refine E_lconst (v := 1) dX6_due_17 (by decide) ?_
  refine E_callS (As := [.long (Int32.toInt64 w), .long 0, .long 1]) (l' := [.long (Int32.toInt64 w), .null, .long 0, .null, .long 1, .null]) (st := []) dX6_due_18 kX6_73 sX6_isIn MX6_isIn rfl rfl (Nat.le_of_ble_eq_true rfl) (FC.use (c_isIn (d + 3) _ _ _) rfl (L2 := [(0, .inr (6, [.ref 1, .ref 5, .ref 7, .ref 10, .ref 18, .ref 26, .ref 31, .ref 35, .ref 37, .int (nI rk)])), (31, .inr (1, [.ref 32, .ref 33])), (32, .inl (false, 8, dn)), (33, .inl (false, 8, dd))]) rfl) (Nat.le_of_ble_eq_true rfl) (fun _ _ hq9 => E_fgo ?_ hq9)
  show E _ _ 21 [.ref 0, .int x, .long z, .null, .int (nI n), .int w, .null] [.int (b2i (inL (Int32.toInt64 w) 0 1))] (hov hp [(0, .inr (6, [.ref 1, .ref 5, .ref 7, .ref 10, .ref 18, .ref 26, .ref 31, .ref 35, .ref 37, .int (nI rk)])), (31, .inr (1, [.ref 32, .ref 33])), (32, .inl (false, 8, dn)), (33, .inl (false, 8, dd))]) _
  refine E_if_ne (tgt := 27) dX6_due_21 (by decide) (fun _ => ?_) (fun c => (b2i_x1 h1 c).elim)
  refine E_aload_n dX6_due_27 rfl ?_
  refine E_get dX6_due_28 fX6_50 (by decide) rfl rfl ?_
  refine E_iload_n dX6_due_31 rfl ?_
  refine E_iload dX6_due_32 rfl ?_
  refine E_callV (As := [.int x, .int (nI n)]) (l' := [.ref 31, .int x, .int (nI n), .null, .null, .null]) (st := []) dX6_due_34 kX6_179 iX1_readNights vX1_readNights (by decide) rfl rfl MX1_readNights rfl rfl (Nat.le_of_ble_eq_true rfl) (FC.use (c_readNights (d + 3) dn x n hn) rfl (L2 := [(0, .inr (6, [.ref 1, .ref 5, .ref 7, .ref 10, .ref 18, .ref 26, .ref 31, .ref 35, .ref 37, .int (nI rk)])), (31, .inr (1, [.ref 32, .ref 33])), (32, .inl (false, 8, (rn n x dn).2)), (33, .inl (false, 8, dd))]) rfl) (Nat.le_of_ble_eq_true rfl) (fun _ _ hq9 => E_fgo ?_ hq9)
  show E _ _ 37 [.ref 0, .int x, .long z, .null, .int (nI n), .int w, .null] [.int (b2i ((rn n x dn).1))] (hov hp [(0, .inr (6, [.ref 1, .ref 5, .ref 7, .ref 10, .ref 18, .ref 26, .ref 31, .ref 35, .ref 37, .int (nI rk)])), (31, .inr (1, [.ref 32, .ref 33])), (32, .inl (false, 8, (rn n x dn).2)), (33, .inl (false, 8, dd))]) _
  refine E_if_eq (tgt := 53) dX6_due_37 (by decide) (fun _ => ?_) (fun c => (b2i_x0 hr c).elim)
  refine E_bipush (v := (-2)) dX6_due_53 (by decide) ?_
  exact E_iretf dX6_due_55 rfl rfl rfl rfl

set_option maxHeartbeats 4000000 in
set_option maxRecDepth 20000 in
theorem t_due_dn (d : Nat) (rk : Nat) (dn dd : Nat → Int32) (x : Int32) (z : Int64) (n : Nat) (hn : n ≤ 8) (w : Int32) (h0 : inL (Int32.toInt64 (nI n)) 1 8 = true) (h1 : inL (Int32.toInt64 w) 0 1 = true) (hr : (rn n x dn).1 = true) (hz : ¬ 0 ≤ z) : FC YX6_due (d + 4) [.ref 0, .int x, .long z, .null, .int (nI n), .int w, .null] [(0, .inr (6, [.ref 1, .ref 5, .ref 7, .ref 10, .ref 18, .ref 26, .ref 31, .ref 35, .ref 37, .int (nI rk)])), (31, .inr (1, [.ref 32, .ref 33])), (32, .inl (false, 8, dn)), (33, .inl (false, 8, dd))] (some (.int (-2))) [(0, .inr (6, [.ref 1, .ref 5, .ref 7, .ref 10, .ref 18, .ref 26, .ref 31, .ref 35, .ref 37, .int (nI rk)])), (31, .inr (1, [.ref 32, .ref 33])), (32, .inl (false, 8, (rn n x dn).2)), (33, .inl (false, 8, dd))] := by
  intro hp
  refine E_iload dX6_due_0 rfl ?_
  refine E_i2l dX6_due_2 ?_
  refine E_lconst (v := 1) dX6_due_3 (by decide) ?_
  refine E_ldc2 dX6_due_4 qX6_177 ?_
  refine E_callS (As := [.long (Int32.toInt64 (nI n)), .long 1, .long 8]) (l' := [.long (Int32.toInt64 (nI n)), .null, .long 1, .null, .long 8, .null]) (st := []) dX6_due_7 kX6_73 sX6_isIn MX6_isIn rfl rfl (Nat.le_of_ble_eq_true rfl) (FC.use (c_isIn (d + 3) _ _ _) rfl (L2 := [(0, .inr (6, [.ref 1, .ref 5, .ref 7, .ref 10, .ref 18, .ref 26, .ref 31, .ref 35, .ref 37, .int (nI rk)])), (31, .inr (1, [.ref 32, .ref 33])), (32, .inl (false, 8, dn)), (33, .inl (false, 8, dd))]) rfl) (Nat.le_of_ble_eq_true rfl) (fun _ _ hq9 => E_fgo ?_ hq9)
  show E _ _ 10 [.ref 0, .int x, .long z, .null, .int (nI n), .int w, .null] [.int (b2i (inL (Int32.toInt64 (nI n)) 1 8))] (hov hp [(0, .inr (6, [.ref 1, .ref 5, .ref 7, .ref 10, .ref 18, .ref 26, .ref 31, .ref 35, .ref 37, .int (nI rk)])), (31, .inr (1, [.ref 32, .ref 33])), (32, .inl (false, 8, dn)), (33, .inl (false, 8, dd))]) _
  refine E_if_eq (tgt := 24) dX6_due_10 (by decide) (fun c => (b2i_x1 h0 c).elim) (fun _ => ?_)
  refine E_iload dX6_due_13 rfl ?_
  refine E_i2l dX6_due_15 ?_
  refine E_lconst (v := 0) dX6_due_16 (by decide) ?_
  refine E_lconst (v := 1) dX6_due_17 (by decide) ?_
  refine E_callS (As := [.long (Int32.toInt64 w), .long 0, .long 1]) (l' := [.long (Int32.toInt64 w), .null, .long 0, .null, .long 1, .null]) (st := []) dX6_due_18 kX6_73 sX6_isIn MX6_isIn rfl rfl (Nat.le_of_ble_eq_true rfl) (FC.use (c_isIn (d + 3) _ _ _) rfl (L2 := [(0, .inr (6, [.ref 1, .ref 5, .ref 7, .ref 10, .ref 18, .ref 26, .ref 31, .ref 35, .ref 37, .int (nI rk)])), (31, .inr (1, [.ref 32, .ref 33])), (32, .inl (false, 8, dn)), (33, .inl (false, 8, dd))]) rfl) (Nat.le_of_ble_eq_true rfl) (fun _ _ hq9 => E_fgo ?_ hq9)
  show E _ _ 21 [.ref 0, .int x, .long z, .null, .int (nI n), .int w, .null] [.int (b2i (inL (Int32.toInt64 w) 0 1))] (hov hp [(0, .inr (6, [.ref 1, .ref 5, .ref 7, .ref 10, .ref 18, .ref 26, .ref 31, .ref 35, .ref 37, .int (nI rk)])), (31, .inr (1, [.ref 32, .ref 33])), (32, .inl (false, 8, dn)), (33, .inl (false, 8, dd))]) _
  refine E_if_ne (tgt := 27) dX6_due_21 (by decide) (fun _ => ?_) (fun c => (b2i_x1 h1 c).elim)
  refine E_aload_n dX6_due_27 rfl ?_
  refine E_get dX6_due_28 fX6_50 (by decide) rfl rfl ?_
  refine E_iload_n dX6_due_31 rfl ?_
  refine E_iload dX6_due_32 rfl ?_
  refine E_callV (As := [.int x, .int (nI n)]) (l' := [.ref 31, .int x, .int (nI n), .null, .null, .null]) (st := []) dX6_due_34 kX6_179 iX1_readNights vX1_readNights (by decide) rfl rfl MX1_readNights rfl rfl (Nat.le_of_ble_eq_true rfl) (FC.use (c_readNights (d + 3) dn x n hn) rfl (L2 := [(0, .inr (6, [.ref 1, .ref 5, .ref 7, .ref 10, .ref 18, .ref 26, .ref 31, .ref 35, .ref 37, .int (nI rk)])), (31, .inr (1, [.ref 32, .ref 33])), (32, .inl (false, 8, (rn n x dn).2)), (33, .inl (false, 8, dd))]) rfl) (Nat.le_of_ble_eq_true rfl) (fun _ _ hq9 => E_fgo ?_ hq9)
  show E _ _ 37 [.ref 0, .int x, .long z, .null, .int (nI n), .int w, .null] [.int (b2i ((rn n x dn).1))] (hov hp [(0, .inr (6, [.ref 1, .ref 5, .ref 7, .ref 10, .ref 18, .ref 26, .ref 31, .ref 35, .ref 37, .int (nI rk)])), (31, .inr (1, [.ref 32, .ref 33])), (32, .inl (false, 8, (rn n x dn).2)), (33, .inl (false, 8, dd))]) _
  refine E_if_eq (tgt := 53) dX6_due_37 (by decide) (fun c => (b2i_x1 hr c).elim) (fun _ => ?_)
  refine E_aload_n dX6_due_40 rfl ?_
  refine E_get dX6_due_41 fX6_50 (by decide) rfl rfl ?_
  refine E_lload_n dX6_due_44 rfl ?_
  refine E_iload dX6_due_45 rfl ?_
  refine E_callV (As := [.long z, .int (nI n)]) (l' := [.ref 31, .long z, .null, .int (nI n), .null, .null, .null]) (st := []) dX6_due_47 kX6_182 iX1_readDays vX1_readDays (by decide) rfl rfl MX1_readDays rfl rfl (Nat.le_of_ble_eq_true rfl) (FC.use (c_readDays_neg (d + 3) dd z n hz) rfl (L2 := [(0, .inr (6, [.ref 1, .ref 5, .ref 7, .ref 10, .ref 18, .ref 26, .ref 31, .ref 35, .ref 37, .int (nI rk)])), (31, .inr (1, [.ref 32, .ref 33])), (32, .inl (false, 8, (rn n x dn).2)), (33, .inl (false, 8, dd))]) rfl) (Nat.le_of_ble_eq_true rfl) (fun _ _ hq9 => E_fgo ?_ hq9)
  show E _ _ 50 [.ref 0, .int x, .long z, .null, .int (nI n), .int w, .null] [.int (b2i false)] (hov hp [(0, .inr (6, [.ref 1, .ref 5, .ref 7, .ref 10, .ref 18, .ref 26, .ref 31, .ref 35, .ref 37, .int (nI rk)])), (31, .inr (1, [.ref 32, .ref 33])), (32, .inl (false, 8, (rn n x dn).2)), (33, .inl (false, 8, dd))]) _
  refine E_if_ne (tgt := 56) dX6_due_50 (by decide) (fun c => (b2i_x0 rfl c).elim) (fun _ => ?_)
  refine E_bipush (v := (-2)) dX6_due_53 (by decide) ?_
  exact E_iretf dX6_due_55 rfl rfl rfl rfl

set_option maxHeartbeats 4000000 in
set_option maxRecDepth 20000 in
theorem t_due_d (d : Nat) (rk : Nat) (dn dd : Nat → Int32) (x : Int32) (z : Int64) (n : Nat) (hn : n ≤ 8) (w : Int32) (h0 : inL (Int32.toInt64 (nI n)) 1 8 = true) (h1 : inL (Int32.toInt64 w) 0 1 = true) (hr : (rn n x dn).1 = true) (hz : 0 ≤ z) (hd : (rd n z dd).1 = false) : FC YX6_due (d + 4) [.ref 0, .int x, .long z, .null, .int (nI n), .int w, .null] [(0, .inr (6, [.ref 1, .ref 5, .ref 7, .ref 10, .ref 18, .ref 26, .ref 31, .ref 35, .ref 37, .int (nI rk)])), (31, .inr (1, [.ref 32, .ref 33])), (32, .inl (false, 8, dn)), (33, .inl (false, 8, dd))] (some (.int (-2))) [(0, .inr (6, [.ref 1, .ref 5, .ref 7, .ref 10, .ref 18, .ref 26, .ref 31, .ref 35, .ref 37, .int (nI rk)])), (31, .inr (1, [.ref 32, .ref 33])), (32, .inl (false, 8, (rn n x dn).2)), (33, .inl (false, 8, (rd n z dd).2))] := by
  intro hp
  refine E_iload dX6_due_0 rfl ?_
  refine E_i2l dX6_due_2 ?_
  refine E_lconst (v := 1) dX6_due_3 (by decide) ?_
  refine E_ldc2 dX6_due_4 qX6_177 ?_
  refine E_callS (As := [.long (Int32.toInt64 (nI n)), .long 1, .long 8]) (l' := [.long (Int32.toInt64 (nI n)), .null, .long 1, .null, .long 8, .null]) (st := []) dX6_due_7 kX6_73 sX6_isIn MX6_isIn rfl rfl (Nat.le_of_ble_eq_true rfl) (FC.use (c_isIn (d + 3) _ _ _) rfl (L2 := [(0, .inr (6, [.ref 1, .ref 5, .ref 7, .ref 10, .ref 18, .ref 26, .ref 31, .ref 35, .ref 37, .int (nI rk)])), (31, .inr (1, [.ref 32, .ref 33])), (32, .inl (false, 8, dn)), (33, .inl (false, 8, dd))]) rfl) (Nat.le_of_ble_eq_true rfl) (fun _ _ hq9 => E_fgo ?_ hq9)
  show E _ _ 10 [.ref 0, .int x, .long z, .null, .int (nI n), .int w, .null] [.int (b2i (inL (Int32.toInt64 (nI n)) 1 8))] (hov hp [(0, .inr (6, [.ref 1, .ref 5, .ref 7, .ref 10, .ref 18, .ref 26, .ref 31, .ref 35, .ref 37, .int (nI rk)])), (31, .inr (1, [.ref 32, .ref 33])), (32, .inl (false, 8, dn)), (33, .inl (false, 8, dd))]) _
  refine E_if_eq (tgt := 24) dX6_due_10 (by decide) (fun c => (b2i_x1 h0 c).elim) (fun _ => ?_)
  refine E_iload dX6_due_13 rfl ?_
  refine E_i2l dX6_due_15 ?_
  refine E_lconst (v := 0) dX6_due_16 (by decide) ?_
  refine E_lconst (v := 1) dX6_due_17 (by decide) ?_
  refine E_callS (As := [.long (Int32.toInt64 w), .long 0, .long 1]) (l' := [.long (Int32.toInt64 w), .null, .long 0, .null, .long 1, .null]) (st := []) dX6_due_18 kX6_73 sX6_isIn MX6_isIn rfl rfl (Nat.le_of_ble_eq_true rfl) (FC.use (c_isIn (d + 3) _ _ _) rfl (L2 := [(0, .inr (6, [.ref 1, .ref 5, .ref 7, .ref 10, .ref 18, .ref 26, .ref 31, .ref 35, .ref 37, .int (nI rk)])), (31, .inr (1, [.ref 32, .ref 33])), (32, .inl (false, 8, dn)), (33, .inl (false, 8, dd))]) rfl) (Nat.le_of_ble_eq_true rfl) (fun _ _ hq9 => E_fgo ?_ hq9)
  show E _ _ 21 [.ref 0, .int x, .long z, .null, .int (nI n), .int w, .null] [.int (b2i (inL (Int32.toInt64 w) 0 1))] (hov hp [(0, .inr (6, [.ref 1, .ref 5, .ref 7, .ref 10, .ref 18, .ref 26, .ref 31, .ref 35, .ref 37, .int (nI rk)])), (31, .inr (1, [.ref 32, .ref 33])), (32, .inl (false, 8, dn)), (33, .inl (false, 8, dd))]) _
  refine E_if_ne (tgt := 27) dX6_due_21 (by decide) (fun _ => ?_) (fun c => (b2i_x1 h1 c).elim)
  refine E_aload_n dX6_due_27 rfl ?_
  refine E_get dX6_due_28 fX6_50 (by decide) rfl rfl ?_
  refine E_iload_n dX6_due_31 rfl ?_
  refine E_iload dX6_due_32 rfl ?_
  refine E_callV (As := [.int x, .int (nI n)]) (l' := [.ref 31, .int x, .int (nI n), .null, .null, .null]) (st := []) dX6_due_34 kX6_179 iX1_readNights vX1_readNights (by decide) rfl rfl MX1_readNights rfl rfl (Nat.le_of_ble_eq_true rfl) (FC.use (c_readNights (d + 3) dn x n hn) rfl (L2 := [(0, .inr (6, [.ref 1, .ref 5, .ref 7, .ref 10, .ref 18, .ref 26, .ref 31, .ref 35, .ref 37, .int (nI rk)])), (31, .inr (1, [.ref 32, .ref 33])), (32, .inl (false, 8, (rn n x dn).2)), (33, .inl (false, 8, dd))]) rfl) (Nat.le_of_ble_eq_true rfl) (fun _ _ hq9 => E_fgo ?_ hq9)
  show E _ _ 37 [.ref 0, .int x, .long z, .null, .int (nI n), .int w, .null] [.int (b2i ((rn n x dn).1))] (hov hp [(0, .inr (6, [.ref 1, .ref 5, .ref 7, .ref 10, .ref 18, .ref 26, .ref 31, .ref 35, .ref 37, .int (nI rk)])), (31, .inr (1, [.ref 32, .ref 33])), (32, .inl (false, 8, (rn n x dn).2)), (33, .inl (false, 8, dd))]) _
  refine E_if_eq (tgt := 53) dX6_due_37 (by decide) (fun c => (b2i_x1 hr c).elim) (fun _ => ?_)
  refine E_aload_n dX6_due_40 rfl ?_
  refine E_get dX6_due_41 fX6_50 (by decide) rfl rfl ?_
  refine E_lload_n dX6_due_44 rfl ?_
  refine E_iload dX6_due_45 rfl ?_
  refine E_callV (As := [.long z, .int (nI n)]) (l' := [.ref 31, .long z, .null, .int (nI n), .null, .null, .null]) (st := []) dX6_due_47 kX6_182 iX1_readDays vX1_readDays (by decide) rfl rfl MX1_readDays rfl rfl (Nat.le_of_ble_eq_true rfl) (FC.use (c_readDays (d + 3) dd z hz n hn) rfl (L2 := [(0, .inr (6, [.ref 1, .ref 5, .ref 7, .ref 10, .ref 18, .ref 26, .ref 31, .ref 35, .ref 37, .int (nI rk)])), (31, .inr (1, [.ref 32, .ref 33])), (32, .inl (false, 8, (rn n x dn).2)), (33, .inl (false, 8, (rd n z dd).2))]) rfl) (Nat.le_of_ble_eq_true rfl) (fun _ _ hq9 => E_fgo ?_ hq9)
  show E _ _ 50 [.ref 0, .int x, .long z, .null, .int (nI n), .int w, .null] [.int (b2i ((rd n z dd).1))] (hov hp [(0, .inr (6, [.ref 1, .ref 5, .ref 7, .ref 10, .ref 18, .ref 26, .ref 31, .ref 35, .ref 37, .int (nI rk)])), (31, .inr (1, [.ref 32, .ref 33])), (32, .inl (false, 8, (rn n x dn).2)), (33, .inl (false, 8, (rd n z dd).2))]) _
  refine E_if_ne (tgt := 56) dX6_due_50 (by decide) (fun c => (b2i_x0 hd c).elim) (fun _ => ?_)
  refine E_bipush (v := (-2)) dX6_due_53 (by decide) ?_
  exact E_iretf dX6_due_55 rfl rfl rfl rfl

set_option maxHeartbeats 4000000 in
set_option maxRecDepth 20000 in
theorem t_due_0 (d : Nat) (rk : Nat) (dn dd : Nat → Int32) (x : Int32) (z : Int64) (n : Nat) (hn : n ≤ 8) (h0 : inL (Int32.toInt64 (nI n)) 1 8 = true) (hr : (rn n x dn).1 = true) (hz : 0 ≤ z) (hd : (rd n z dd).1 = true) (dv : Nat → Nat) (hdd : ∀ j, j < n → (rd n z dd).2 j = nI (dv j) ∧ dv j ≤ 99) (nv : Nat → Nat) (hdn : ∀ j, j < n → (rn n x dn).2 j = nI (nv j) ∧ nv j ≤ 9) : FC YX6_due (d + 4) [.ref 0, .int x, .long z, .null, .int (nI n), .int 0, .null] [(0, .inr (6, [.ref 1, .ref 5, .ref 7, .ref 10, .ref 18, .ref 26, .ref 31, .ref 35, .ref 37, .int (nI rk)])), (31, .inr (1, [.ref 32, .ref 33])), (32, .inl (false, 8, dn)), (33, .inl (false, 8, dd))] (some (.int (bcI (mit (fun x => allB (cbP nv dv n x) n) (2 ^ n - 1))))) [(0, .inr (6, [.ref 1, .ref 5, .ref 7, .ref 10, .ref 18, .ref 26, .ref 31, .ref 35, .ref 37, .int (nI rk)])), (31, .inr (1, [.ref 32, .ref 33])), (32, .inl (false, 8, (rn n x dn).2)), (33, .inl (false, 8, (rd n z dd).2))] := by
  intro hp
  refine E_iload dX6_due_0 rfl ?_
  refine E_i2l dX6_due_2 ?_
  refine E_lconst (v := 1) dX6_due_3 (by decide) ?_
  refine E_ldc2 dX6_due_4 qX6_177 ?_
  refine E_callS (As := [.long (Int32.toInt64 (nI n)), .long 1, .long 8]) (l' := [.long (Int32.toInt64 (nI n)), .null, .long 1, .null, .long 8, .null]) (st := []) dX6_due_7 kX6_73 sX6_isIn MX6_isIn rfl rfl (Nat.le_of_ble_eq_true rfl) (FC.use (c_isIn (d + 3) _ _ _) rfl (L2 := [(0, .inr (6, [.ref 1, .ref 5, .ref 7, .ref 10, .ref 18, .ref 26, .ref 31, .ref 35, .ref 37, .int (nI rk)])), (31, .inr (1, [.ref 32, .ref 33])), (32, .inl (false, 8, dn)), (33, .inl (false, 8, dd))]) rfl) (Nat.le_of_ble_eq_true rfl) (fun _ _ hq9 => E_fgo ?_ hq9)
  show E _ _ 10 [.ref 0, .int x, .long z, .null, .int (nI n), .int 0, .null] [.int (b2i (inL (Int32.toInt64 (nI n)) 1 8))] (hov hp [(0, .inr (6, [.ref 1, .ref 5, .ref 7, .ref 10, .ref 18, .ref 26, .ref 31, .ref 35, .ref 37, .int (nI rk)])), (31, .inr (1, [.ref 32, .ref 33])), (32, .inl (false, 8, dn)), (33, .inl (false, 8, dd))]) _
  refine E_if_eq (tgt := 24) dX6_due_10 (by decide) (fun c => (b2i_x1 h0 c).elim) (fun _ => ?_)
  refine E_iload dX6_due_13 rfl ?_
  refine E_i2l dX6_due_15 ?_
  refine E_lconst (v := 0) dX6_due_16 (by decide) ?_
  refine E_lconst (v := 1) dX6_due_17 (by decide) ?_
  refine E_callS (As := [.long (Int32.toInt64 0), .long 0, .long 1]) (l' := [.long (Int32.toInt64 0), .null, .long 0, .null, .long 1, .null]) (st := []) dX6_due_18 kX6_73 sX6_isIn MX6_isIn rfl rfl (Nat.le_of_ble_eq_true rfl) (FC.use (c_isIn (d + 3) _ _ _) rfl (L2 := [(0, .inr (6, [.ref 1, .ref 5, .ref 7, .ref 10, .ref 18, .ref 26, .ref 31, .ref 35, .ref 37, .int (nI rk)])), (31, .inr (1, [.ref 32, .ref 33])), (32, .inl (false, 8, dn)), (33, .inl (false, 8, dd))]) rfl) (Nat.le_of_ble_eq_true rfl) (fun _ _ hq9 => E_fgo ?_ hq9)
  show E _ _ 21 [.ref 0, .int x, .long z, .null, .int (nI n), .int 0, .null] [.int (b2i (inL (Int32.toInt64 0) 0 1))] (hov hp [(0, .inr (6, [.ref 1, .ref 5, .ref 7, .ref 10, .ref 18, .ref 26, .ref 31, .ref 35, .ref 37, .int (nI rk)])), (31, .inr (1, [.ref 32, .ref 33])), (32, .inl (false, 8, dn)), (33, .inl (false, 8, dd))]) _
  refine E_if_ne (tgt := 27) dX6_due_21 (by decide) (fun _ => ?_) (fun c => (b2i_x1 (by decide) c).elim)
  refine E_aload_n dX6_due_27 rfl ?_
  refine E_get dX6_due_28 fX6_50 (by decide) rfl rfl ?_
  refine E_iload_n dX6_due_31 rfl ?_
  refine E_iload dX6_due_32 rfl ?_
  refine E_callV (As := [.int x, .int (nI n)]) (l' := [.ref 31, .int x, .int (nI n), .null, .null, .null]) (st := []) dX6_due_34 kX6_179 iX1_readNights vX1_readNights (by decide) rfl rfl MX1_readNights rfl rfl (Nat.le_of_ble_eq_true rfl) (FC.use (c_readNights (d + 3) dn x n hn) rfl (L2 := [(0, .inr (6, [.ref 1, .ref 5, .ref 7, .ref 10, .ref 18, .ref 26, .ref 31, .ref 35, .ref 37, .int (nI rk)])), (31, .inr (1, [.ref 32, .ref 33])), (32, .inl (false, 8, (rn n x dn).2)), (33, .inl (false, 8, dd))]) rfl) (Nat.le_of_ble_eq_true rfl) (fun _ _ hq9 => E_fgo ?_ hq9)
  show E _ _ 37 [.ref 0, .int x, .long z, .null, .int (nI n), .int 0, .null] [.int (b2i ((rn n x dn).1))] (hov hp [(0, .inr (6, [.ref 1, .ref 5, .ref 7, .ref 10, .ref 18, .ref 26, .ref 31, .ref 35, .ref 37, .int (nI rk)])), (31, .inr (1, [.ref 32, .ref 33])), (32, .inl (false, 8, (rn n x dn).2)), (33, .inl (false, 8, dd))]) _
  refine E_if_eq (tgt := 53) dX6_due_37 (by decide) (fun c => (b2i_x1 hr c).elim) (fun _ => ?_)
  refine E_aload_n dX6_due_40 rfl ?_
  refine E_get dX6_due_41 fX6_50 (by decide) rfl rfl ?_
  refine E_lload_n dX6_due_44 rfl ?_
  refine E_iload dX6_due_45 rfl ?_
  refine E_callV (As := [.long z, .int (nI n)]) (l' := [.ref 31, .long z, .null, .int (nI n), .null, .null, .null]) (st := []) dX6_due_47 kX6_182 iX1_readDays vX1_readDays (by decide) rfl rfl MX1_readDays rfl rfl (Nat.le_of_ble_eq_true rfl) (FC.use (c_readDays (d + 3) dd z hz n hn) rfl (L2 := [(0, .inr (6, [.ref 1, .ref 5, .ref 7, .ref 10, .ref 18, .ref 26, .ref 31, .ref 35, .ref 37, .int (nI rk)])), (31, .inr (1, [.ref 32, .ref 33])), (32, .inl (false, 8, (rn n x dn).2)), (33, .inl (false, 8, (rd n z dd).2))]) rfl) (Nat.le_of_ble_eq_true rfl) (fun _ _ hq9 => E_fgo ?_ hq9)
  show E _ _ 50 [.ref 0, .int x, .long z, .null, .int (nI n), .int 0, .null] [.int (b2i ((rd n z dd).1))] (hov hp [(0, .inr (6, [.ref 1, .ref 5, .ref 7, .ref 10, .ref 18, .ref 26, .ref 31, .ref 35, .ref 37, .int (nI rk)])), (31, .inr (1, [.ref 32, .ref 33])), (32, .inl (false, 8, (rn n x dn).2)), (33, .inl (false, 8, (rd n z dd).2))]) _
  refine E_if_ne (tgt := 56) dX6_due_50 (by decide) (fun _ => ?_) (fun c => (b2i_x1 hd c).elim)
  refine E_aload_n dX6_due_56 rfl ?_
  refine E_get dX6_due_57 fX6_50 (by decide) rfl rfl ?_
  refine E_iload dX6_due_60 rfl ?_
  refine E_callV (As := [.int (nI n)]) (l' := [.ref 31, .int (nI n), .null, .null]) (st := []) dX6_due_62 kX6_186 iX1_mostInTime vX1_mostInTime (by decide) rfl rfl MX1_mostInTime rfl rfl (Nat.le_of_ble_eq_true rfl) (FC.use (c_most d n hn (rn n x dn).2 (rd n z dd).2 dv hdd nv hdn) rfl (L2 := [(0, .inr (6, [.ref 1, .ref 5, .ref 7, .ref 10, .ref 18, .ref 26, .ref 31, .ref 35, .ref 37, .int (nI rk)])), (31, .inr (1, [.ref 32, .ref 33])), (32, .inl (false, 8, (rn n x dn).2)), (33, .inl (false, 8, (rd n z dd).2))]) rfl) (Nat.le_of_ble_eq_true rfl) (fun _ _ hq9 => E_fgo ?_ hq9)
  show E _ _ 65 [.ref 0, .int x, .long z, .null, .int (nI n), .int 0, .null] [.int (mit (fun x => allB (cbP nv dv n x) n) (2 ^ n - 1))] (hov hp [(0, .inr (6, [.ref 1, .ref 5, .ref 7, .ref 10, .ref 18, .ref 26, .ref 31, .ref 35, .ref 37, .int (nI rk)])), (31, .inr (1, [.ref 32, .ref 33])), (32, .inl (false, 8, (rn n x dn).2)), (33, .inl (false, 8, (rd n z dd).2))]) _
  refine E_istore (l2 := [.ref 0, .int x, .long z, .null, .int (nI n), .int 0, .int (mit (fun x => allB (cbP nv dv n x) n) (2 ^ n - 1))]) dX6_due_65 (by decide) rfl ?_
  refine E_iload dX6_due_67 rfl ?_
  refine E_if_ne (tgt := 80) dX6_due_69 (by decide) (fun c => by first | exact absurd c (by decide) | exact absurd (by decide) c) (fun _ => ?_)
  refine E_iload dX6_due_72 rfl ?_
  refine E_callS (As := [.int (mit (fun x => allB (cbP nv dv n x) n) (2 ^ n - 1))]) (l' := [.int (mit (fun x => allB (cbP nv dv n x) n) (2 ^ n - 1))]) (st := []) dX6_due_74 kX6_95 sJ6_bitCount_0f7a4 MJ6_bitCount_0f7a4 rfl rfl (Nat.le_of_ble_eq_true rfl) (FC.use (c_bitCount (d + 3) _) rfl (L2 := [(0, .inr (6, [.ref 1, .ref 5, .ref 7, .ref 10, .ref 18, .ref 26, .ref 31, .ref 35, .ref 37, .int (nI rk)])), (31, .inr (1, [.ref 32, .ref 33])), (32, .inl (false, 8, (rn n x dn).2)), (33, .inl (false, 8, (rd n z dd).2))]) rfl) (Nat.le_of_ble_eq_true rfl) (fun _ _ hq9 => E_fgo ?_ hq9)
  show E _ _ 77 [.ref 0, .int x, .long z, .null, .int (nI n), .int 0, .int (mit (fun x => allB (cbP nv dv n x) n) (2 ^ n - 1))] [.int (bcI (mit (fun x => allB (cbP nv dv n x) n) (2 ^ n - 1)))] (hov hp [(0, .inr (6, [.ref 1, .ref 5, .ref 7, .ref 10, .ref 18, .ref 26, .ref 31, .ref 35, .ref 37, .int (nI rk)])), (31, .inr (1, [.ref 32, .ref 33])), (32, .inl (false, 8, (rn n x dn).2)), (33, .inl (false, 8, (rd n z dd).2))]) _
  refine E_goto (tgt := 82) dX6_due_77 (by decide) ?_
  exact E_iretf dX6_due_82 rfl rfl rfl rfl

set_option maxHeartbeats 4000000 in
set_option maxRecDepth 20000 in
theorem t_due_1 (d : Nat) (rk : Nat) (dn dd : Nat → Int32) (x : Int32) (z : Int64) (n : Nat) (hn : n ≤ 8) (h0 : inL (Int32.toInt64 (nI n)) 1 8 = true) (hr : (rn n x dn).1 = true) (hz : 0 ≤ z) (hd : (rd n z dd).1 = true) (dv : Nat → Nat) (hdd : ∀ j, j < n → (rd n z dd).2 j = nI (dv j) ∧ dv j ≤ 99) (nv : Nat → Nat) (hdn : ∀ j, j < n → (rn n x dn).2 j = nI (nv j) ∧ nv j ≤ 9) : FC YX6_due (d + 4) [.ref 0, .int x, .long z, .null, .int (nI n), .int 1, .null] [(0, .inr (6, [.ref 1, .ref 5, .ref 7, .ref 10, .ref 18, .ref 26, .ref 31, .ref 35, .ref 37, .int (nI rk)])), (31, .inr (1, [.ref 32, .ref 33])), (32, .inl (false, 8, dn)), (33, .inl (false, 8, dd))] (some (.int (mit (fun x => allB (cbP nv dv n x) n) (2 ^ n - 1)))) [(0, .inr (6, [.ref 1, .ref 5, .ref 7, .ref 10, .ref 18, .ref 26, .ref 31, .ref 35, .ref 37, .int (nI rk)])), (31, .inr (1, [.ref 32, .ref 33])), (32, .inl (false, 8, (rn n x dn).2)), (33, .inl (false, 8, (rd n z dd).2))] := by
  intro hp
  refine E_iload dX6_due_0 rfl ?_
  refine E_i2l dX6_due_2 ?_
  refine E_lconst (v := 1) dX6_due_3 (by decide) ?_
  refine E_ldc2 dX6_due_4 qX6_177 ?_
  refine E_callS (As := [.long (Int32.toInt64 (nI n)), .long 1, .long 8]) (l' := [.long (Int32.toInt64 (nI n)), .null, .long 1, .null, .long 8, .null]) (st := []) dX6_due_7 kX6_73 sX6_isIn MX6_isIn rfl rfl (Nat.le_of_ble_eq_true rfl) (FC.use (c_isIn (d + 3) _ _ _) rfl (L2 := [(0, .inr (6, [.ref 1, .ref 5, .ref 7, .ref 10, .ref 18, .ref 26, .ref 31, .ref 35, .ref 37, .int (nI rk)])), (31, .inr (1, [.ref 32, .ref 33])), (32, .inl (false, 8, dn)), (33, .inl (false, 8, dd))]) rfl) (Nat.le_of_ble_eq_true rfl) (fun _ _ hq9 => E_fgo ?_ hq9)
  show E _ _ 10 [.ref 0, .int x, .long z, .null, .int (nI n), .int 1, .null] [.int (b2i (inL (Int32.toInt64 (nI n)) 1 8))] (hov hp [(0, .inr (6, [.ref 1, .ref 5, .ref 7, .ref 10, .ref 18, .ref 26, .ref 31, .ref 35, .ref 37, .int (nI rk)])), (31, .inr (1, [.ref 32, .ref 33])), (32, .inl (false, 8, dn)), (33, .inl (false, 8, dd))]) _
  refine E_if_eq (tgt := 24) dX6_due_10 (by decide) (fun c => (b2i_x1 h0 c).elim) (fun _ => ?_)
  refine E_iload dX6_due_13 rfl ?_
  refine E_i2l dX6_due_15 ?_
  refine E_lconst (v := 0) dX6_due_16 (by decide) ?_
  refine E_lconst (v := 1) dX6_due_17 (by decide) ?_
  refine E_callS (As := [.long (Int32.toInt64 1), .long 0, .long 1]) (l' := [.long (Int32.toInt64 1), .null, .long 0, .null, .long 1, .null]) (st := []) dX6_due_18 kX6_73 sX6_isIn MX6_isIn rfl rfl (Nat.le_of_ble_eq_true rfl) (FC.use (c_isIn (d + 3) _ _ _) rfl (L2 := [(0, .inr (6, [.ref 1, .ref 5, .ref 7, .ref 10, .ref 18, .ref 26, .ref 31, .ref 35, .ref 37, .int (nI rk)])), (31, .inr (1, [.ref 32, .ref 33])), (32, .inl (false, 8, dn)), (33, .inl (false, 8, dd))]) rfl) (Nat.le_of_ble_eq_true rfl) (fun _ _ hq9 => E_fgo ?_ hq9)
  show E _ _ 21 [.ref 0, .int x, .long z, .null, .int (nI n), .int 1, .null] [.int (b2i (inL (Int32.toInt64 1) 0 1))] (hov hp [(0, .inr (6, [.ref 1, .ref 5, .ref 7, .ref 10, .ref 18, .ref 26, .ref 31, .ref 35, .ref 37, .int (nI rk)])), (31, .inr (1, [.ref 32, .ref 33])), (32, .inl (false, 8, dn)), (33, .inl (false, 8, dd))]) _
  refine E_if_ne (tgt := 27) dX6_due_21 (by decide) (fun _ => ?_) (fun c => (b2i_x1 (by decide) c).elim)
  refine E_aload_n dX6_due_27 rfl ?_
  refine E_get dX6_due_28 fX6_50 (by decide) rfl rfl ?_
  refine E_iload_n dX6_due_31 rfl ?_
  refine E_iload dX6_due_32 rfl ?_
  refine E_callV (As := [.int x, .int (nI n)]) (l' := [.ref 31, .int x, .int (nI n), .null, .null, .null]) (st := []) dX6_due_34 kX6_179 iX1_readNights vX1_readNights (by decide) rfl rfl MX1_readNights rfl rfl (Nat.le_of_ble_eq_true rfl) (FC.use (c_readNights (d + 3) dn x n hn) rfl (L2 := [(0, .inr (6, [.ref 1, .ref 5, .ref 7, .ref 10, .ref 18, .ref 26, .ref 31, .ref 35, .ref 37, .int (nI rk)])), (31, .inr (1, [.ref 32, .ref 33])), (32, .inl (false, 8, (rn n x dn).2)), (33, .inl (false, 8, dd))]) rfl) (Nat.le_of_ble_eq_true rfl) (fun _ _ hq9 => E_fgo ?_ hq9)
  show E _ _ 37 [.ref 0, .int x, .long z, .null, .int (nI n), .int 1, .null] [.int (b2i ((rn n x dn).1))] (hov hp [(0, .inr (6, [.ref 1, .ref 5, .ref 7, .ref 10, .ref 18, .ref 26, .ref 31, .ref 35, .ref 37, .int (nI rk)])), (31, .inr (1, [.ref 32, .ref 33])), (32, .inl (false, 8, (rn n x dn).2)), (33, .inl (false, 8, dd))]) _
  refine E_if_eq (tgt := 53) dX6_due_37 (by decide) (fun c => (b2i_x1 hr c).elim) (fun _ => ?_)
  refine E_aload_n dX6_due_40 rfl ?_
  refine E_get dX6_due_41 fX6_50 (by decide) rfl rfl ?_
  refine E_lload_n dX6_due_44 rfl ?_
  refine E_iload dX6_due_45 rfl ?_
  refine E_callV (As := [.long z, .int (nI n)]) (l' := [.ref 31, .long z, .null, .int (nI n), .null, .null, .null]) (st := []) dX6_due_47 kX6_182 iX1_readDays vX1_readDays (by decide) rfl rfl MX1_readDays rfl rfl (Nat.le_of_ble_eq_true rfl) (FC.use (c_readDays (d + 3) dd z hz n hn) rfl (L2 := [(0, .inr (6, [.ref 1, .ref 5, .ref 7, .ref 10, .ref 18, .ref 26, .ref 31, .ref 35, .ref 37, .int (nI rk)])), (31, .inr (1, [.ref 32, .ref 33])), (32, .inl (false, 8, (rn n x dn).2)), (33, .inl (false, 8, (rd n z dd).2))]) rfl) (Nat.le_of_ble_eq_true rfl) (fun _ _ hq9 => E_fgo ?_ hq9)
  show E _ _ 50 [.ref 0, .int x, .long z, .null, .int (nI n), .int 1, .null] [.int (b2i ((rd n z dd).1))] (hov hp [(0, .inr (6, [.ref 1, .ref 5, .ref 7, .ref 10, .ref 18, .ref 26, .ref 31, .ref 35, .ref 37, .int (nI rk)])), (31, .inr (1, [.ref 32, .ref 33])), (32, .inl (false, 8, (rn n x dn).2)), (33, .inl (false, 8, (rd n z dd).2))]) _
  refine E_if_ne (tgt := 56) dX6_due_50 (by decide) (fun _ => ?_) (fun c => (b2i_x1 hd c).elim)
  refine E_aload_n dX6_due_56 rfl ?_
  refine E_get dX6_due_57 fX6_50 (by decide) rfl rfl ?_
  refine E_iload dX6_due_60 rfl ?_
  refine E_callV (As := [.int (nI n)]) (l' := [.ref 31, .int (nI n), .null, .null]) (st := []) dX6_due_62 kX6_186 iX1_mostInTime vX1_mostInTime (by decide) rfl rfl MX1_mostInTime rfl rfl (Nat.le_of_ble_eq_true rfl) (FC.use (c_most d n hn (rn n x dn).2 (rd n z dd).2 dv hdd nv hdn) rfl (L2 := [(0, .inr (6, [.ref 1, .ref 5, .ref 7, .ref 10, .ref 18, .ref 26, .ref 31, .ref 35, .ref 37, .int (nI rk)])), (31, .inr (1, [.ref 32, .ref 33])), (32, .inl (false, 8, (rn n x dn).2)), (33, .inl (false, 8, (rd n z dd).2))]) rfl) (Nat.le_of_ble_eq_true rfl) (fun _ _ hq9 => E_fgo ?_ hq9)
  show E _ _ 65 [.ref 0, .int x, .long z, .null, .int (nI n), .int 1, .null] [.int (mit (fun x => allB (cbP nv dv n x) n) (2 ^ n - 1))] (hov hp [(0, .inr (6, [.ref 1, .ref 5, .ref 7, .ref 10, .ref 18, .ref 26, .ref 31, .ref 35, .ref 37, .int (nI rk)])), (31, .inr (1, [.ref 32, .ref 33])), (32, .inl (false, 8, (rn n x dn).2)), (33, .inl (false, 8, (rd n z dd).2))]) _
  refine E_istore (l2 := [.ref 0, .int x, .long z, .null, .int (nI n), .int 1, .int (mit (fun x => allB (cbP nv dv n x) n) (2 ^ n - 1))]) dX6_due_65 (by decide) rfl ?_
  refine E_iload dX6_due_67 rfl ?_
  refine E_if_ne (tgt := 80) dX6_due_69 (by decide) (fun _ => ?_) (fun c => by first | exact absurd c (by decide) | exact absurd (by decide) c)
  refine E_iload dX6_due_80 rfl ?_
  exact E_iretf dX6_due_82 rfl rfl rfl rfl
