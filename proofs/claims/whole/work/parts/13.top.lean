set_option maxHeartbeats 4000000 in
set_option maxRecDepth 20000 in
theorem t_heap_unkA (d : Nat) (rk : Nat) (x c t u : Int32) (hv : inL (Int32.toInt64 x) 0 5 = false) : FC YX6_heap (d + 2) [.ref 0, .int x, .int c, .int t, .int u, .null, .null] [(0, .inr (6, [.ref 1, .ref 5, .ref 7, .ref 10, .ref 18, .ref 26, .ref 31, .ref 35, .ref 37, .int (nI rk)]))] (some (.int (-1))) [(0, .inr (6, [.ref 1, .ref 5, .ref 7, .ref 10, .ref 18, .ref 26, .ref 31, .ref 35, .ref 37, .int (nI rk)]))] := by
  intro hp
  refine E_iload_n dX6_heap_0 rfl ?_
  refine E_callS (As := [.int x]) (l' := [.int x]) (st := []) dX6_heap_1 kX6_65 sX6_isHeap MX6_isHeap rfl rfl (Nat.le_of_ble_eq_true rfl) (FC.use (c_isHeap d _) rfl (L2 := [(0, .inr (6, [.ref 1, .ref 5, .ref 7, .ref 10, .ref 18, .ref 26, .ref 31, .ref 35, .ref 37, .int (nI rk)]))]) rfl) (Nat.le_of_ble_eq_true rfl) (fun _ _ hq9 => E_fgo ?_ hq9)
  show E _ _ 4 [.ref 0, .int x, .int c, .int t, .int u, .null, .null] [.int (b2i (inL (Int32.toInt64 x) 0 5))] (hov hp [(0, .inr (6, [.ref 1, .ref 5, .ref 7, .ref 10, .ref 18, .ref 26, .ref 31, .ref 35, .ref 37, .int (nI rk)]))]) _
  refine E_if_eq (tgt := 21) dX6_heap_4 (by decide) (fun _ => ?_) (fun c => (b2i_x0 hv c).elim)
  refine E_iconst (v := (-1)) dX6_heap_21 (by decide) ?_
  exact E_iretf dX6_heap_22 rfl rfl rfl rfl

set_option maxHeartbeats 4000000 in
set_option maxRecDepth 20000 in
theorem t_heap_unkB (d : Nat) (rk : Nat) (x c t u : Int32) (hv : inL (Int32.toInt64 x) 0 5 = true) (hc : inL (Int32.toInt64 c) (-1) 24 = false) : FC YX6_heap (d + 2) [.ref 0, .int x, .int c, .int t, .int u, .null, .null] [(0, .inr (6, [.ref 1, .ref 5, .ref 7, .ref 10, .ref 18, .ref 26, .ref 31, .ref 35, .ref 37, .int (nI rk)]))] (some (.int (-1))) [(0, .inr (6, [.ref 1, .ref 5, .ref 7, .ref 10, .ref 18, .ref 26, .ref 31, .ref 35, .ref 37, .int (nI rk)]))] := by
  intro hp
  refine E_iload_n dX6_heap_0 rfl ?_
  refine E_callS (As := [.int x]) (l' := [.int x]) (st := []) dX6_heap_1 kX6_65 sX6_isHeap MX6_isHeap rfl rfl (Nat.le_of_ble_eq_true rfl) (FC.use (c_isHeap d _) rfl (L2 := [(0, .inr (6, [.ref 1, .ref 5, .ref 7, .ref 10, .ref 18, .ref 26, .ref 31, .ref 35, .ref 37, .int (nI rk)]))]) rfl) (Nat.le_of_ble_eq_true rfl) (fun _ _ hq9 => E_fgo ?_ hq9)
  show E _ _ 4 [.ref 0, .int x, .int c, .int t, .int u, .null, .null] [.int (b2i (inL (Int32.toInt64 x) 0 5))] (hov hp [(0, .inr (6, [.ref 1, .ref 5, .ref 7, .ref 10, .ref 18, .ref 26, .ref 31, .ref 35, .ref 37, .int (nI rk)]))]) _
  refine E_if_eq (tgt := 21) dX6_heap_4 (by decide) (fun c => (b2i_x1 hv c).elim) (fun _ => ?_)
  refine E_iload_n dX6_heap_7 rfl ?_
  refine E_i2l dX6_heap_8 ?_
  refine E_ldc2 dX6_heap_9 qX6_69 ?_
  refine E_ldc2 dX6_heap_12 qX6_71 ?_
  refine E_callS (As := [.long (Int32.toInt64 c), .long (-1), .long 24]) (l' := [.long (Int32.toInt64 c), .null, .long (-1), .null, .long 24, .null]) (st := []) dX6_heap_15 kX6_73 sX6_isIn MX6_isIn rfl rfl (Nat.le_of_ble_eq_true rfl) (FC.use (c_isIn (d + 1) _ _ _) rfl (L2 := [(0, .inr (6, [.ref 1, .ref 5, .ref 7, .ref 10, .ref 18, .ref 26, .ref 31, .ref 35, .ref 37, .int (nI rk)]))]) rfl) (Nat.le_of_ble_eq_true rfl) (fun _ _ hq9 => E_fgo ?_ hq9)
  show E _ _ 18 [.ref 0, .int x, .int c, .int t, .int u, .null, .null] [.int (b2i (inL (Int32.toInt64 c) (-1) 24))] (hov hp [(0, .inr (6, [.ref 1, .ref 5, .ref 7, .ref 10, .ref 18, .ref 26, .ref 31, .ref 35, .ref 37, .int (nI rk)]))]) _
  refine E_if_ne (tgt := 23) dX6_heap_18 (by decide) (fun c => (b2i_x0 hc c).elim) (fun _ => ?_)
  refine E_iconst (v := (-1)) dX6_heap_21 (by decide) ?_
  exact E_iretf dX6_heap_22 rfl rfl rfl rfl

set_option maxHeartbeats 4000000 in
set_option maxRecDepth 20000 in
theorem t_heap_outA_neg (d : Nat) (rk : Nat) (x c t u : Int32) (hv : inL (Int32.toInt64 x) 0 5 = true) (hc : inL (Int32.toInt64 c) (-1) 24 = true) (hs : ¬ 0 ≤ c) (h1 : inL (Int32.toInt64 t) 0 (Int32.toInt64 0) = false) : FC YX6_heap (d + 2) [.ref 0, .int x, .int c, .int t, .int u, .null, .null] [(0, .inr (6, [.ref 1, .ref 5, .ref 7, .ref 10, .ref 18, .ref 26, .ref 31, .ref 35, .ref 37, .int (nI rk)]))] (some (.int (-2))) [(0, .inr (6, [.ref 1, .ref 5, .ref 7, .ref 10, .ref 18, .ref 26, .ref 31, .ref 35, .ref 37, .int (nI rk)]))] := by
  intro hp
  refine E_iload_n dX6_heap_0 rfl ?_
  refine E_callS (As := [.int x]) (l' := [.int x]) (st := []) dX6_heap_1 kX6_65 sX6_isHeap MX6_isHeap rfl rfl (Nat.le_of_ble_eq_true rfl) (FC.use (c_isHeap d _) rfl (L2 := [(0, .inr (6, [.ref 1, .ref 5, .ref 7, .ref 10, .ref 18, .ref 26, .ref 31, .ref 35, .ref 37, .int (nI rk)]))]) rfl) (Nat.le_of_ble_eq_true rfl) (fun _ _ hq9 => E_fgo ?_ hq9)
  show E _ _ 4 [.ref 0, .int x, .int c, .int t, .int u, .null, .null] [.int (b2i (inL (Int32.toInt64 x) 0 5))] (hov hp [(0, .inr (6, [.ref 1, .ref 5, .ref 7, .ref 10, .ref 18, .ref 26, .ref 31, .ref 35, .ref 37, .int (nI rk)]))]) _
  refine E_if_eq (tgt := 21) dX6_heap_4 (by decide) (fun c => (b2i_x1 hv c).elim) (fun _ => ?_)
  refine E_iload_n dX6_heap_7 rfl ?_
  refine E_i2l dX6_heap_8 ?_
  refine E_ldc2 dX6_heap_9 qX6_69 ?_
  refine E_ldc2 dX6_heap_12 qX6_71 ?_
  refine E_callS (As := [.long (Int32.toInt64 c), .long (-1), .long 24]) (l' := [.long (Int32.toInt64 c), .null, .long (-1), .null, .long 24, .null]) (st := []) dX6_heap_15 kX6_73 sX6_isIn MX6_isIn rfl rfl (Nat.le_of_ble_eq_true rfl) (FC.use (c_isIn (d + 1) _ _ _) rfl (L2 := [(0, .inr (6, [.ref 1, .ref 5, .ref 7, .ref 10, .ref 18, .ref 26, .ref 31, .ref 35, .ref 37, .int (nI rk)]))]) rfl) (Nat.le_of_ble_eq_true rfl) (fun _ _ hq9 => E_fgo ?_ hq9)
  show E _ _ 18 [.ref 0, .int x, .int c, .int t, .int u, .null, .null] [.int (b2i (inL (Int32.toInt64 c) (-1) 24))] (hov hp [(0, .inr (6, [.ref 1, .ref 5, .ref 7, .ref 10, .ref 18, .ref 26, .ref 31, .ref 35, .ref 37, .int (nI rk)]))]) _
  refine E_if_ne (tgt := 23) dX6_heap_18 (by decide) (fun _ => ?_) (fun c => (b2i_x1 hc c).elim)
  refine E_iload_n dX6_heap_23 rfl ?_
  refine E_if_ge (tgt := 31) dX6_heap_24 (by decide) (fun c => absurd c hs) (fun _ => ?_)
  refine E_iconst (v := 0) dX6_heap_27 (by decide) ?_
  refine E_goto (tgt := 33) dX6_heap_28 (by decide) ?_
  refine E_istore (l2 := [.ref 0, .int x, .int c, .int t, .int u, .int 0, .null]) dX6_heap_33 (by decide) rfl ?_
  refine E_iload_n dX6_heap_35 rfl ?_
  refine E_i2l dX6_heap_36 ?_
  refine E_lconst (v := 0) dX6_heap_37 (by decide) ?_
  refine E_iload dX6_heap_38 rfl ?_
  refine E_i2l dX6_heap_40 ?_
  refine E_callS (As := [.long (Int32.toInt64 t), .long 0, .long (Int32.toInt64 0)]) (l' := [.long (Int32.toInt64 t), .null, .long 0, .null, .long (Int32.toInt64 0), .null]) (st := []) dX6_heap_41 kX6_73 sX6_isIn MX6_isIn rfl rfl (Nat.le_of_ble_eq_true rfl) (FC.use (c_isIn (d + 1) _ _ _) rfl (L2 := [(0, .inr (6, [.ref 1, .ref 5, .ref 7, .ref 10, .ref 18, .ref 26, .ref 31, .ref 35, .ref 37, .int (nI rk)]))]) rfl) (Nat.le_of_ble_eq_true rfl) (fun _ _ hq9 => E_fgo ?_ hq9)
  show E _ _ 44 [.ref 0, .int x, .int c, .int t, .int u, .int 0, .null] [.int (b2i (inL (Int32.toInt64 t) 0 (Int32.toInt64 0)))] (hov hp [(0, .inr (6, [.ref 1, .ref 5, .ref 7, .ref 10, .ref 18, .ref 26, .ref 31, .ref 35, .ref 37, .int (nI rk)]))]) _
  refine E_if_eq (tgt := 60) dX6_heap_44 (by decide) (fun _ => ?_) (fun c => (b2i_x0 h1 c).elim)
  refine E_bipush (v := (-2)) dX6_heap_60 (by decide) ?_
  exact E_iretf dX6_heap_62 rfl rfl rfl rfl

set_option maxHeartbeats 4000000 in
set_option maxRecDepth 20000 in
theorem t_heap_outB_neg (d : Nat) (rk : Nat) (x c t u : Int32) (hv : inL (Int32.toInt64 x) 0 5 = true) (hc : inL (Int32.toInt64 c) (-1) 24 = true) (hs : ¬ 0 ≤ c) (h1 : inL (Int32.toInt64 t) 0 (Int32.toInt64 0) = true) (h2 : inL (Int32.toInt64 u) 0 9 = false) : FC YX6_heap (d + 2) [.ref 0, .int x, .int c, .int t, .int u, .null, .null] [(0, .inr (6, [.ref 1, .ref 5, .ref 7, .ref 10, .ref 18, .ref 26, .ref 31, .ref 35, .ref 37, .int (nI rk)]))] (some (.int (-2))) [(0, .inr (6, [.ref 1, .ref 5, .ref 7, .ref 10, .ref 18, .ref 26, .ref 31, .ref 35, .ref 37, .int (nI rk)]))] := by
  intro hp
  refine E_iload_n dX6_heap_0 rfl ?_
  refine E_callS (As := [.int x]) (l' := [.int x]) (st := []) dX6_heap_1 kX6_65 sX6_isHeap MX6_isHeap rfl rfl (Nat.le_of_ble_eq_true rfl) (FC.use (c_isHeap d _) rfl (L2 := [(0, .inr (6, [.ref 1, .ref 5, .ref 7, .ref 10, .ref 18, .ref 26, .ref 31, .ref 35, .ref 37, .int (nI rk)]))]) rfl) (Nat.le_of_ble_eq_true rfl) (fun _ _ hq9 => E_fgo ?_ hq9)
  show E _ _ 4 [.ref 0, .int x, .int c, .int t, .int u, .null, .null] [.int (b2i (inL (Int32.toInt64 x) 0 5))] (hov hp [(0, .inr (6, [.ref 1, .ref 5, .ref 7, .ref 10, .ref 18, .ref 26, .ref 31, .ref 35, .ref 37, .int (nI rk)]))]) _
  refine E_if_eq (tgt := 21) dX6_heap_4 (by decide) (fun c => (b2i_x1 hv c).elim) (fun _ => ?_)
  refine E_iload_n dX6_heap_7 rfl ?_
  refine E_i2l dX6_heap_8 ?_
  refine E_ldc2 dX6_heap_9 qX6_69 ?_
  refine E_ldc2 dX6_heap_12 qX6_71 ?_
  refine E_callS (As := [.long (Int32.toInt64 c), .long (-1), .long 24]) (l' := [.long (Int32.toInt64 c), .null, .long (-1), .null, .long 24, .null]) (st := []) dX6_heap_15 kX6_73 sX6_isIn MX6_isIn rfl rfl (Nat.le_of_ble_eq_true rfl) (FC.use (c_isIn (d + 1) _ _ _) rfl (L2 := [(0, .inr (6, [.ref 1, .ref 5, .ref 7, .ref 10, .ref 18, .ref 26, .ref 31, .ref 35, .ref 37, .int (nI rk)]))]) rfl) (Nat.le_of_ble_eq_true rfl) (fun _ _ hq9 => E_fgo ?_ hq9)
  show E _ _ 18 [.ref 0, .int x, .int c, .int t, .int u, .null, .null] [.int (b2i (inL (Int32.toInt64 c) (-1) 24))] (hov hp [(0, .inr (6, [.ref 1, .ref 5, .ref 7, .ref 10, .ref 18, .ref 26, .ref 31, .ref 35, .ref 37, .int (nI rk)]))]) _
  refine E_if_ne (tgt := 23) dX6_heap_18 (by decide) (fun _ => ?_) (fun c => (b2i_x1 hc c).elim)
  refine E_iload_n dX6_heap_23 rfl ?_
  refine E_if_ge (tgt := 31) dX6_heap_24 (by decide) (fun c => absurd c hs) (fun _ => ?_)
  refine E_iconst (v := 0) dX6_heap_27 (by decide) ?_
  refine E_goto (tgt := 33) dX6_heap_28 (by decide) ?_
  refine E_istore (l2 := [.ref 0, .int x, .int c, .int t, .int u, .int 0, .null]) dX6_heap_33 (by decide) rfl ?_
  refine E_iload_n dX6_heap_35 rfl ?_
  refine E_i2l dX6_heap_36 ?_
  refine E_lconst (v := 0) dX6_heap_37 (by decide) ?_
  refine E_iload dX6_heap_38 rfl ?_
  refine E_i2l dX6_heap_40 ?_
  refine E_callS (As := [.long (Int32.toInt64 t), .long 0, .long (Int32.toInt64 0)]) (l' := [.long (Int32.toInt64 t), .null, .long 0, .null, .long (Int32.toInt64 0), .null]) (st := []) dX6_heap_41 kX6_73 sX6_isIn MX6_isIn rfl rfl (Nat.le_of_ble_eq_true rfl) (FC.use (c_isIn (d + 1) _ _ _) rfl (L2 := [(0, .inr (6, [.ref 1, .ref 5, .ref 7, .ref 10, .ref 18, .ref 26, .ref 31, .ref 35, .ref 37, .int (nI rk)]))]) rfl) (Nat.le_of_ble_eq_true rfl) (fun _ _ hq9 => E_fgo ?_ hq9)
  show E _ _ 44 [.ref 0, .int x, .int c, .int t, .int u, .int 0, .null] [.int (b2i (inL (Int32.toInt64 t) 0 (Int32.toInt64 0)))] (hov hp [(0, .inr (6, [.ref 1, .ref 5, .ref 7, .ref 10, .ref 18, .ref 26, .ref 31, .ref 35, .ref 37, .int (nI rk)]))]) _
  refine E_if_eq (tgt := 60) dX6_heap_44 (by decide) (fun c => (b2i_x1 h1 c).elim) (fun _ => ?_)
  refine E_iload dX6_heap_47 rfl ?_
  refine E_i2l dX6_heap_49 ?_
  refine E_lconst (v := 0) dX6_heap_50 (by decide) ?_
  refine E_ldc2 dX6_heap_51 qX6_77 ?_
  refine E_callS (As := [.long (Int32.toInt64 u), .long 0, .long 9]) (l' := [.long (Int32.toInt64 u), .null, .long 0, .null, .long 9, .null]) (st := []) dX6_heap_54 kX6_73 sX6_isIn MX6_isIn rfl rfl (Nat.le_of_ble_eq_true rfl) (FC.use (c_isIn (d + 1) _ _ _) rfl (L2 := [(0, .inr (6, [.ref 1, .ref 5, .ref 7, .ref 10, .ref 18, .ref 26, .ref 31, .ref 35, .ref 37, .int (nI rk)]))]) rfl) (Nat.le_of_ble_eq_true rfl) (fun _ _ hq9 => E_fgo ?_ hq9)
  show E _ _ 57 [.ref 0, .int x, .int c, .int t, .int u, .int 0, .null] [.int (b2i (inL (Int32.toInt64 u) 0 9))] (hov hp [(0, .inr (6, [.ref 1, .ref 5, .ref 7, .ref 10, .ref 18, .ref 26, .ref 31, .ref 35, .ref 37, .int (nI rk)]))]) _
  refine E_if_ne (tgt := 63) dX6_heap_57 (by decide) (fun c => (b2i_x0 h2 c).elim) (fun _ => ?_)
  refine E_bipush (v := (-2)) dX6_heap_60 (by decide) ?_
  exact E_iretf dX6_heap_62 rfl rfl rfl rfl

set_option maxHeartbeats 4000000 in
set_option maxRecDepth 20000 in
theorem t_heap_outA_pos (d : Nat) (rk : Nat) (x c t u : Int32) (hv : inL (Int32.toInt64 x) 0 5 = true) (hc : inL (Int32.toInt64 c) (-1) 24 = true) (hs : 0 ≤ c) (h1 : inL (Int32.toInt64 t) 0 (Int32.toInt64 9) = false) : FC YX6_heap (d + 2) [.ref 0, .int x, .int c, .int t, .int u, .null, .null] [(0, .inr (6, [.ref 1, .ref 5, .ref 7, .ref 10, .ref 18, .ref 26, .ref 31, .ref 35, .ref 37, .int (nI rk)]))] (some (.int (-2))) [(0, .inr (6, [.ref 1, .ref 5, .ref 7, .ref 10, .ref 18, .ref 26, .ref 31, .ref 35, .ref 37, .int (nI rk)]))] := by
  intro hp
  refine E_iload_n dX6_heap_0 rfl ?_
  refine E_callS (As := [.int x]) (l' := [.int x]) (st := []) dX6_heap_1 kX6_65 sX6_isHeap MX6_isHeap rfl rfl (Nat.le_of_ble_eq_true rfl) (FC.use (c_isHeap d _) rfl (L2 := [(0, .inr (6, [.ref 1, .ref 5, .ref 7, .ref 10, .ref 18, .ref 26, .ref 31, .ref 35, .ref 37, .int (nI rk)]))]) rfl) (Nat.le_of_ble_eq_true rfl) (fun _ _ hq9 => E_fgo ?_ hq9)
  show E _ _ 4 [.ref 0, .int x, .int c, .int t, .int u, .null, .null] [.int (b2i (inL (Int32.toInt64 x) 0 5))] (hov hp [(0, .inr (6, [.ref 1, .ref 5, .ref 7, .ref 10, .ref 18, .ref 26, .ref 31, .ref 35, .ref 37, .int (nI rk)]))]) _
  refine E_if_eq (tgt := 21) dX6_heap_4 (by decide) (fun c => (b2i_x1 hv c).elim) (fun _ => ?_)
  refine E_iload_n dX6_heap_7 rfl ?_
  refine E_i2l dX6_heap_8 ?_
  refine E_ldc2 dX6_heap_9 qX6_69 ?_
  refine E_ldc2 dX6_heap_12 qX6_71 ?_
  refine E_callS (As := [.long (Int32.toInt64 c), .long (-1), .long 24]) (l' := [.long (Int32.toInt64 c), .null, .long (-1), .null, .long 24, .null]) (st := []) dX6_heap_15 kX6_73 sX6_isIn MX6_isIn rfl rfl (Nat.le_of_ble_eq_true rfl) (FC.use (c_isIn (d + 1) _ _ _) rfl (L2 := [(0, .inr (6, [.ref 1, .ref 5, .ref 7, .ref 10, .ref 18, .ref 26, .ref 31, .ref 35, .ref 37, .int (nI rk)]))]) rfl) (Nat.le_of_ble_eq_true rfl) (fun _ _ hq9 => E_fgo ?_ hq9)
  show E _ _ 18 [.ref 0, .int x, .int c, .int t, .int u, .null, .null] [.int (b2i (inL (Int32.toInt64 c) (-1) 24))] (hov hp [(0, .inr (6, [.ref 1, .ref 5, .ref 7, .ref 10, .ref 18, .ref 26, .ref 31, .ref 35, .ref 37, .int (nI rk)]))]) _
  refine E_if_ne (tgt := 23) dX6_heap_18 (by decide) (fun _ => ?_) (fun c => (b2i_x1 hc c).elim)
  refine E_iload_n dX6_heap_23 rfl ?_
  refine E_if_ge (tgt := 31) dX6_heap_24 (by decide) (fun _ => ?_) (fun c => absurd hs c)
  refine E_bipush (v := 9) dX6_heap_31 (by decide) ?_
  refine E_istore (l2 := [.ref 0, .int x, .int c, .int t, .int u, .int 9, .null]) dX6_heap_33 (by decide) rfl ?_
  refine E_iload_n dX6_heap_35 rfl ?_
  refine E_i2l dX6_heap_36 ?_
  refine E_lconst (v := 0) dX6_heap_37 (by decide) ?_
  refine E_iload dX6_heap_38 rfl ?_
  refine E_i2l dX6_heap_40 ?_
  refine E_callS (As := [.long (Int32.toInt64 t), .long 0, .long (Int32.toInt64 9)]) (l' := [.long (Int32.toInt64 t), .null, .long 0, .null, .long (Int32.toInt64 9), .null]) (st := []) dX6_heap_41 kX6_73 sX6_isIn MX6_isIn rfl rfl (Nat.le_of_ble_eq_true rfl) (FC.use (c_isIn (d + 1) _ _ _) rfl (L2 := [(0, .inr (6, [.ref 1, .ref 5, .ref 7, .ref 10, .ref 18, .ref 26, .ref 31, .ref 35, .ref 37, .int (nI rk)]))]) rfl) (Nat.le_of_ble_eq_true rfl) (fun _ _ hq9 => E_fgo ?_ hq9)
  show E _ _ 44 [.ref 0, .int x, .int c, .int t, .int u, .int 9, .null] [.int (b2i (inL (Int32.toInt64 t) 0 (Int32.toInt64 9)))] (hov hp [(0, .inr (6, [.ref 1, .ref 5, .ref 7, .ref 10, .ref 18, .ref 26, .ref 31, .ref 35, .ref 37, .int (nI rk)]))]) _
  refine E_if_eq (tgt := 60) dX6_heap_44 (by decide) (fun _ => ?_) (fun c => (b2i_x0 h1 c).elim)
  refine E_bipush (v := (-2)) dX6_heap_60 (by decide) ?_
  exact E_iretf dX6_heap_62 rfl rfl rfl rfl

set_option maxHeartbeats 4000000 in
set_option maxRecDepth 20000 in
theorem t_heap_outB_pos (d : Nat) (rk : Nat) (x c t u : Int32) (hv : inL (Int32.toInt64 x) 0 5 = true) (hc : inL (Int32.toInt64 c) (-1) 24 = true) (hs : 0 ≤ c) (h1 : inL (Int32.toInt64 t) 0 (Int32.toInt64 9) = true) (h2 : inL (Int32.toInt64 u) 0 9 = false) : FC YX6_heap (d + 2) [.ref 0, .int x, .int c, .int t, .int u, .null, .null] [(0, .inr (6, [.ref 1, .ref 5, .ref 7, .ref 10, .ref 18, .ref 26, .ref 31, .ref 35, .ref 37, .int (nI rk)]))] (some (.int (-2))) [(0, .inr (6, [.ref 1, .ref 5, .ref 7, .ref 10, .ref 18, .ref 26, .ref 31, .ref 35, .ref 37, .int (nI rk)]))] := by
  intro hp
  refine E_iload_n dX6_heap_0 rfl ?_
  refine E_callS (As := [.int x]) (l' := [.int x]) (st := []) dX6_heap_1 kX6_65 sX6_isHeap MX6_isHeap rfl rfl (Nat.le_of_ble_eq_true rfl) (FC.use (c_isHeap d _) rfl (L2 := [(0, .inr (6, [.ref 1, .ref 5, .ref 7, .ref 10, .ref 18, .ref 26, .ref 31, .ref 35, .ref 37, .int (nI rk)]))]) rfl) (Nat.le_of_ble_eq_true rfl) (fun _ _ hq9 => E_fgo ?_ hq9)
  show E _ _ 4 [.ref 0, .int x, .int c, .int t, .int u, .null, .null] [.int (b2i (inL (Int32.toInt64 x) 0 5))] (hov hp [(0, .inr (6, [.ref 1, .ref 5, .ref 7, .ref 10, .ref 18, .ref 26, .ref 31, .ref 35, .ref 37, .int (nI rk)]))]) _
  refine E_if_eq (tgt := 21) dX6_heap_4 (by decide) (fun c => (b2i_x1 hv c).elim) (fun _ => ?_)
  refine E_iload_n dX6_heap_7 rfl ?_
  refine E_i2l dX6_heap_8 ?_
  refine E_ldc2 dX6_heap_9 qX6_69 ?_
  refine E_ldc2 dX6_heap_12 qX6_71 ?_
  refine E_callS (As := [.long (Int32.toInt64 c), .long (-1), .long 24]) (l' := [.long (Int32.toInt64 c), .null, .long (-1), .null, .long 24, .null]) (st := []) dX6_heap_15 kX6_73 sX6_isIn MX6_isIn rfl rfl (Nat.le_of_ble_eq_true rfl) (FC.use (c_isIn (d + 1) _ _ _) rfl (L2 := [(0, .inr (6, [.ref 1, .ref 5, .ref 7, .ref 10, .ref 18, .ref 26, .ref 31, .ref 35, .ref 37, .int (nI rk)]))]) rfl) (Nat.le_of_ble_eq_true rfl) (fun _ _ hq9 => E_fgo ?_ hq9)
  show E _ _ 18 [.ref 0, .int x, .int c, .int t, .int u, .null, .null] [.int (b2i (inL (Int32.toInt64 c) (-1) 24))] (hov hp [(0, .inr (6, [.ref 1, .ref 5, .ref 7, .ref 10, .ref 18, .ref 26, .ref 31, .ref 35, .ref 37, .int (nI rk)]))]) _
  refine E_if_ne (tgt := 23) dX6_heap_18 (by decide) (fun _ => ?_) (fun c => (b2i_x1 hc c).elim)
  refine E_iload_n dX6_heap_23 rfl ?_
  refine E_if_ge (tgt := 31) dX6_heap_24 (by decide) (fun _ => ?_) (fun c => absurd hs c)
  refine E_bipush (v := 9) dX6_heap_31 (by decide) ?_
  refine E_istore (l2 := [.ref 0, .int x, .int c, .int t, .int u, .int 9, .null]) dX6_heap_33 (by decide) rfl ?_
  refine E_iload_n dX6_heap_35 rfl ?_
  refine E_i2l dX6_heap_36 ?_
  refine E_lconst (v := 0) dX6_heap_37 (by decide) ?_
  refine E_iload dX6_heap_38 rfl ?_
  refine E_i2l dX6_heap_40 ?_
  refine E_callS (As := [.long (Int32.toInt64 t), .long 0, .long (Int32.toInt64 9)]) (l' := [.long (Int32.toInt64 t), .null, .long 0, .null, .long (Int32.toInt64 9), .null]) (st := []) dX6_heap_41 kX6_73 sX6_isIn MX6_isIn rfl rfl (Nat.le_of_ble_eq_true rfl) (FC.use (c_isIn (d + 1) _ _ _) rfl (L2 := [(0, .inr (6, [.ref 1, .ref 5, .ref 7, .ref 10, .ref 18, .ref 26, .ref 31, .ref 35, .ref 37, .int (nI rk)]))]) rfl) (Nat.le_of_ble_eq_true rfl) (fun _ _ hq9 => E_fgo ?_ hq9)
  show E _ _ 44 [.ref 0, .int x, .int c, .int t, .int u, .int 9, .null] [.int (b2i (inL (Int32.toInt64 t) 0 (Int32.toInt64 9)))] (hov hp [(0, .inr (6, [.ref 1, .ref 5, .ref 7, .ref 10, .ref 18, .ref 26, .ref 31, .ref 35, .ref 37, .int (nI rk)]))]) _
  refine E_if_eq (tgt := 60) dX6_heap_44 (by decide) (fun c => (b2i_x1 h1 c).elim) (fun _ => ?_)
  refine E_iload dX6_heap_47 rfl ?_
  refine E_i2l dX6_heap_49 ?_
  refine E_lconst (v := 0) dX6_heap_50 (by decide) ?_
  refine E_ldc2 dX6_heap_51 qX6_77 ?_
  refine E_callS (As := [.long (Int32.toInt64 u), .long 0, .long 9]) (l' := [.long (Int32.toInt64 u), .null, .long 0, .null, .long 9, .null]) (st := []) dX6_heap_54 kX6_73 sX6_isIn MX6_isIn rfl rfl (Nat.le_of_ble_eq_true rfl) (FC.use (c_isIn (d + 1) _ _ _) rfl (L2 := [(0, .inr (6, [.ref 1, .ref 5, .ref 7, .ref 10, .ref 18, .ref 26, .ref 31, .ref 35, .ref 37, .int (nI rk)]))]) rfl) (Nat.le_of_ble_eq_true rfl) (fun _ _ hq9 => E_fgo ?_ hq9)
  show E _ _ 57 [.ref 0, .int x, .int c, .int t, .int u, .int 9, .null] [.int (b2i (inL (Int32.toInt64 u) 0 9))] (hov hp [(0, .inr (6, [.ref 1, .ref 5, .ref 7, .ref 10, .ref 18, .ref 26, .ref 31, .ref 35, .ref 37, .int (nI rk)]))]) _
  refine E_if_ne (tgt := 63) dX6_heap_57 (by decide) (fun c => (b2i_x0 h2 c).elim) (fun _ => ?_)
  refine E_bipush (v := (-2)) dX6_heap_60 (by decide) ?_
  exact E_iretf dX6_heap_62 rfl rfl rfl rfl

set_option maxHeartbeats 4000000 in
set_option maxRecDepth 20000 in
theorem t_heap_neg (d : Nat) (rk : Nat) (s : CS) (h : Nat) (hh : h < 6) (c t u : Int32) (hv : inL (Int32.toInt64 (nI h)) 0 5 = true) (hc : inL (Int32.toInt64 c) (-1) 24 = true) (hs : ¬ 0 ≤ c) (h1 : inL (Int32.toInt64 t) 0 (Int32.toInt64 0) = true) (h2 : inL (Int32.toInt64 u) 0 9 = true) : FC YX6_heap (d + 2) [.ref 0, .int (nI h), .int c, .int t, .int u, .null, .null] [(0, .inr (6, [.ref 1, .ref 5, .ref 7, .ref 10, .ref 18, .ref 26, .ref 31, .ref 35, .ref 37, .int (nI rk)])), (1, .inr (0, [.ref 2, .ref 3, .ref 4, .int (skn s), .int (sdr s), .int (swa s), .int (sbu s), .int (sni s)])), (2, .inl (false, 6, sce s)), (3, .inl (false, 6, she s)), (4, .inl (false, 6, stu s))] (some (.int (sce s h))) [(0, .inr (6, [.ref 1, .ref 5, .ref 7, .ref 10, .ref 18, .ref 26, .ref 31, .ref 35, .ref 37, .int (nI rk)])), (1, .inr (0, [.ref 2, .ref 3, .ref 4, .int (skn s), .int (offB (sdr s) h), .int (offB (swa s) h), .int (sbu s), .int (sni s)])), (2, .inl (false, 6, (upd (sce s) h (-6)))), (3, .inl (false, 6, (upd (she s) h t))), (4, .inl (false, 6, (upd (stu s) h u)))] := by
  intro hp
  refine E_iload_n dX6_heap_0 rfl ?_
  refine E_callS (As := [.int (nI h)]) (l' := [.int (nI h)]) (st := []) dX6_heap_1 kX6_65 sX6_isHeap MX6_isHeap rfl rfl (Nat.le_of_ble_eq_true rfl) (FC.use (c_isHeap d _) rfl (L2 := [(0, .inr (6, [.ref 1, .ref 5, .ref 7, .ref 10, .ref 18, .ref 26, .ref 31, .ref 35, .ref 37, .int (nI rk)])), (1, .inr (0, [.ref 2, .ref 3, .ref 4, .int (skn s), .int (sdr s), .int (swa s), .int (sbu s), .int (sni s)])), (2, .inl (false, 6, sce s)), (3, .inl (false, 6, she s)), (4, .inl (false, 6, stu s))]) rfl) (Nat.le_of_ble_eq_true rfl) (fun _ _ hq9 => E_fgo ?_ hq9)
  show E _ _ 4 [.ref 0, .int (nI h), .int c, .int t, .int u, .null, .null] [.int (b2i (inL (Int32.toInt64 (nI h)) 0 5))] (hov hp [(0, .inr (6, [.ref 1, .ref 5, .ref 7, .ref 10, .ref 18, .ref 26, .ref 31, .ref 35, .ref 37, .int (nI rk)])), (1, .inr (0, [.ref 2, .ref 3, .ref 4, .int (skn s), .int (sdr s), .int (swa s), .int (sbu s), .int (sni s)])), (2, .inl (false, 6, sce s)), (3, .inl (false, 6, she s)), (4, .inl (false, 6, stu s))]) _
  refine E_if_eq (tgt := 21) dX6_heap_4 (by decide) (fun c => (b2i_x1 hv c).elim) (fun _ => ?_)
  refine E_iload_n dX6_heap_7 rfl ?_
  refine E_i2l dX6_heap_8 ?_
  refine E_ldc2 dX6_heap_9 qX6_69 ?_
  refine E_ldc2 dX6_heap_12 qX6_71 ?_
  refine E_callS (As := [.long (Int32.toInt64 c), .long (-1), .long 24]) (l' := [.long (Int32.toInt64 c), .null, .long (-1), .null, .long 24, .null]) (st := []) dX6_heap_15 kX6_73 sX6_isIn MX6_isIn rfl rfl (Nat.le_of_ble_eq_true rfl) (FC.use (c_isIn (d + 1) _ _ _) rfl (L2 := [(0, .inr (6, [.ref 1, .ref 5, .ref 7, .ref 10, .ref 18, .ref 26, .ref 31, .ref 35, .ref 37, .int (nI rk)])), (1, .inr (0, [.ref 2, .ref 3, .ref 4, .int (skn s), .int (sdr s), .int (swa s), .int (sbu s), .int (sni s)])), (2, .inl (false, 6, sce s)), (3, .inl (false, 6, she s)), (4, .inl (false, 6, stu s))]) rfl) (Nat.le_of_ble_eq_true rfl) (fun _ _ hq9 => E_fgo ?_ hq9)
  show E _ _ 18 [.ref 0, .int (nI h), .int c, .int t, .int u, .null, .null] [.int (b2i (inL (Int32.toInt64 c) (-1) 24))] (hov hp [(0, .inr (6, [.ref 1, .ref 5, .ref 7, .ref 10, .ref 18, .ref 26, .ref 31, .ref 35, .ref 37, .int (nI rk)])), (1, .inr (0, [.ref 2, .ref 3, .ref 4, .int (skn s), .int (sdr s), .int (swa s), .int (sbu s), .int (sni s)])), (2, .inl (false, 6, sce s)), (3, .inl (false, 6, she s)), (4, .inl (false, 6, stu s))]) _
  refine E_if_ne (tgt := 23) dX6_heap_18 (by decide) (fun _ => ?_) (fun c => (b2i_x1 hc c).elim)
  refine E_iload_n dX6_heap_23 rfl ?_
  refine E_if_ge (tgt := 31) dX6_heap_24 (by decide) (fun c => absurd c hs) (fun _ => ?_)
  refine E_iconst (v := 0) dX6_heap_27 (by decide) ?_
  refine E_goto (tgt := 33) dX6_heap_28 (by decide) ?_
  refine E_istore (l2 := [.ref 0, .int (nI h), .int c, .int t, .int u, .int 0, .null]) dX6_heap_33 (by decide) rfl ?_
  refine E_iload_n dX6_heap_35 rfl ?_
  refine E_i2l dX6_heap_36 ?_
  refine E_lconst (v := 0) dX6_heap_37 (by decide) ?_
  refine E_iload dX6_heap_38 rfl ?_
  refine E_i2l dX6_heap_40 ?_
  refine E_callS (As := [.long (Int32.toInt64 t), .long 0, .long (Int32.toInt64 0)]) (l' := [.long (Int32.toInt64 t), .null, .long 0, .null, .long (Int32.toInt64 0), .null]) (st := []) dX6_heap_41 kX6_73 sX6_isIn MX6_isIn rfl rfl (Nat.le_of_ble_eq_true rfl) (FC.use (c_isIn (d + 1) _ _ _) rfl (L2 := [(0, .inr (6, [.ref 1, .ref 5, .ref 7, .ref 10, .ref 18, .ref 26, .ref 31, .ref 35, .ref 37, .int (nI rk)])), (1, .inr (0, [.ref 2, .ref 3, .ref 4, .int (skn s), .int (sdr s), .int (swa s), .int (sbu s), .int (sni s)])), (2, .inl (false, 6, sce s)), (3, .inl (false, 6, she s)), (4, .inl (false, 6, stu s))]) rfl) (Nat.le_of_ble_eq_true rfl) (fun _ _ hq9 => E_fgo ?_ hq9)
  show E _ _ 44 [.ref 0, .int (nI h), .int c, .int t, .int u, .int 0, .null] [.int (b2i (inL (Int32.toInt64 t) 0 (Int32.toInt64 0)))] (hov hp [(0, .inr (6, [.ref 1, .ref 5, .ref 7, .ref 10, .ref 18, .ref 26, .ref 31, .ref 35, .ref 37, .int (nI rk)])), (1, .inr (0, [.ref 2, .ref 3, .ref 4, .int (skn s), .int (sdr s), .int (swa s), .int (sbu s), .int (sni s)])), (2, .inl (false, 6, sce s)), (3, .inl (false, 6, she s)), (4, .inl (false, 6, stu s))]) _
  refine E_if_eq (tgt := 60) dX6_heap_44 (by decide) (fun c => (b2i_x1 h1 c).elim) (fun _ => ?_)
  refine E_iload dX6_heap_47 rfl ?_
  refine E_i2l dX6_heap_49 ?_
  refine E_lconst (v := 0) dX6_heap_50 (by decide) ?_
  refine E_ldc2 dX6_heap_51 qX6_77 ?_
  refine E_callS (As := [.long (Int32.toInt64 u), .long 0, .long 9]) (l' := [.long (Int32.toInt64 u), .null, .long 0, .null, .long 9, .null]) (st := []) dX6_heap_54 kX6_73 sX6_isIn MX6_isIn rfl rfl (Nat.le_of_ble_eq_true rfl) (FC.use (c_isIn (d + 1) _ _ _) rfl (L2 := [(0, .inr (6, [.ref 1, .ref 5, .ref 7, .ref 10, .ref 18, .ref 26, .ref 31, .ref 35, .ref 37, .int (nI rk)])), (1, .inr (0, [.ref 2, .ref 3, .ref 4, .int (skn s), .int (sdr s), .int (swa s), .int (sbu s), .int (sni s)])), (2, .inl (false, 6, sce s)), (3, .inl (false, 6, she s)), (4, .inl (false, 6, stu s))]) rfl) (Nat.le_of_ble_eq_true rfl) (fun _ _ hq9 => E_fgo ?_ hq9)
  show E _ _ 57 [.ref 0, .int (nI h), .int c, .int t, .int u, .int 0, .null] [.int (b2i (inL (Int32.toInt64 u) 0 9))] (hov hp [(0, .inr (6, [.ref 1, .ref 5, .ref 7, .ref 10, .ref 18, .ref 26, .ref 31, .ref 35, .ref 37, .int (nI rk)])), (1, .inr (0, [.ref 2, .ref 3, .ref 4, .int (skn s), .int (sdr s), .int (swa s), .int (sbu s), .int (sni s)])), (2, .inl (false, 6, sce s)), (3, .inl (false, 6, she s)), (4, .inl (false, 6, stu s))]) _
  refine E_if_ne (tgt := 63) dX6_heap_57 (by decide) (fun _ => ?_) (fun c => (b2i_x1 h2 c).elim)
  refine E_iload_n dX6_heap_63 rfl ?_
  refine E_if_lt (tgt := 82) dX6_heap_64 (by decide) (fun _ => ?_) (fun c => absurd (Int32.not_le.mp hs) c)
  refine E_aload_n dX6_heap_82 rfl ?_
  refine E_get dX6_heap_83 fX6_12 (by decide) rfl rfl ?_
  refine E_get dX6_heap_86 fX6_83 (by decide) rfl rfl ?_
  refine E_iload_n dX6_heap_89 rfl ?_
  refine E_ialdN (j := h) dX6_heap_90 (by decide) rfl (by omega) (by decide) ?_
  refine E_istore (l2 := [.ref 0, .int (nI h), .int c, .int t, .int u, .int 0, .int ((sce s) h)]) dX6_heap_91 (by decide) rfl ?_
  refine E_aload_n dX6_heap_93 rfl ?_
  refine E_get dX6_heap_94 fX6_12 (by decide) rfl rfl ?_
  refine E_iload_n dX6_heap_97 rfl ?_
  refine E_iload_n dX6_heap_98 rfl ?_
  refine E_if_ge (tgt := 107) dX6_heap_99 (by decide) (fun c => absurd c hs) (fun _ => ?_)
  refine E_bipush (v := (-6)) dX6_heap_102 (by decide) ?_
  refine E_goto (tgt := 108) dX6_heap_104 (by decide) ?_
  refine E_iload_n dX6_heap_108 rfl ?_
  refine E_iload dX6_heap_109 rfl ?_
  refine E_callV (As := [.int (nI h), .int (-6), .int t, .int u]) (l' := [.ref 1, .int (nI h), .int (-6), .int t, .int u]) (st := []) dX6_heap_111 kX6_86 iX0_put vX0_put (by decide) rfl rfl MX0_put rfl rfl (Nat.le_of_ble_eq_true rfl) (FC.use (c_put (d + 1) s h (by omega) (-6) t u) rfl (L2 := [(0, .inr (6, [.ref 1, .ref 5, .ref 7, .ref 10, .ref 18, .ref 26, .ref 31, .ref 35, .ref 37, .int (nI rk)])), (1, .inr (0, [.ref 2, .ref 3, .ref 4, .int (skn s), .int (offB (sdr s) h), .int (offB (swa s) h), .int (sbu s), .int (sni s)])), (2, .inl (false, 6, (upd (sce s) h (-6)))), (3, .inl (false, 6, (upd (she s) h t))), (4, .inl (false, 6, (upd (stu s) h u)))]) rfl) (Nat.le_of_ble_eq_true rfl) (fun _ _ hq9 => E_fgo ?_ hq9)
  show E _ _ 114 [.ref 0, .int (nI h), .int c, .int t, .int u, .int 0, .int ((sce s) h)] [] (hov hp [(0, .inr (6, [.ref 1, .ref 5, .ref 7, .ref 10, .ref 18, .ref 26, .ref 31, .ref 35, .ref 37, .int (nI rk)])), (1, .inr (0, [.ref 2, .ref 3, .ref 4, .int (skn s), .int (offB (sdr s) h), .int (offB (swa s) h), .int (sbu s), .int (sni s)])), (2, .inl (false, 6, (upd (sce s) h (-6)))), (3, .inl (false, 6, (upd (she s) h t))), (4, .inl (false, 6, (upd (stu s) h u)))]) _
  refine E_iload dX6_heap_114 rfl ?_
  exact E_iretf dX6_heap_116 rfl rfl rfl rfl

set_option maxHeartbeats 4000000 in
set_option maxRecDepth 20000 in
theorem t_heap_state (d : Nat) (rk : Nat) (s : CS) (h : Nat) (hh : h < 6) (c t u : Int32) (hv : inL (Int32.toInt64 (nI h)) 0 5 = true) (hc : inL (Int32.toInt64 c) (-1) 24 = true) (hs : 0 ≤ c) (h1 : inL (Int32.toInt64 t) 0 (Int32.toInt64 9) = true) (h2 : inL (Int32.toInt64 u) 0 9 = true) (hk : anyB (takP (sce s) c h) 6 = true) : FC YX6_heap (d + 2) [.ref 0, .int (nI h), .int c, .int t, .int u, .null, .null] [(0, .inr (6, [.ref 1, .ref 5, .ref 7, .ref 10, .ref 18, .ref 26, .ref 31, .ref 35, .ref 37, .int (nI rk)])), (1, .inr (0, [.ref 2, .ref 3, .ref 4, .int (skn s), .int (sdr s), .int (swa s), .int (sbu s), .int (sni s)])), (2, .inl (false, 6, sce s)), (3, .inl (false, 6, she s)), (4, .inl (false, 6, stu s))] (some (.int (-3))) [(0, .inr (6, [.ref 1, .ref 5, .ref 7, .ref 10, .ref 18, .ref 26, .ref 31, .ref 35, .ref 37, .int (nI rk)])), (1, .inr (0, [.ref 2, .ref 3, .ref 4, .int (skn s), .int (sdr s), .int (swa s), .int (sbu s), .int (sni s)])), (2, .inl (false, 6, sce s)), (3, .inl (false, 6, she s)), (4, .inl (false, 6, stu s))] := by
  intro hp
  refine E_iload_n dX6_heap_0 rfl ?_
  refine E_callS (As := [.int (nI h)]) (l' := [.int (nI h)]) (st := []) dX6_heap_1 kX6_65 sX6_isHeap MX6_isHeap rfl rfl (Nat.le_of_ble_eq_true rfl) (FC.use (c_isHeap d _) rfl (L2 := [(0, .inr (6, [.ref 1, .ref 5, .ref 7, .ref 10, .ref 18, .ref 26, .ref 31, .ref 35, .ref 37, .int (nI rk)])), (1, .inr (0, [.ref 2, .ref 3, .ref 4, .int (skn s), .int (sdr s), .int (swa s), .int (sbu s), .int (sni s)])), (2, .inl (false, 6, sce s)), (3, .inl (false, 6, she s)), (4, .inl (false, 6, stu s))]) rfl) (Nat.le_of_ble_eq_true rfl) (fun _ _ hq9 => E_fgo ?_ hq9)
  show E _ _ 4 [.ref 0, .int (nI h), .int c, .int t, .int u, .null, .null] [.int (b2i (inL (Int32.toInt64 (nI h)) 0 5))] (hov hp [(0, .inr (6, [.ref 1, .ref 5, .ref 7, .ref 10, .ref 18, .ref 26, .ref 31, .ref 35, .ref 37, .int (nI rk)])), (1, .inr (0, [.ref 2, .ref 3, .ref 4, .int (skn s), .int (sdr s), .int (swa s), .int (sbu s), .int (sni s)])), (2, .inl (false, 6, sce s)), (3, .inl (false, 6, she s)), (4, .inl (false, 6, stu s))]) _
  refine E_if_eq (tgt := 21) dX6_heap_4 (by decide) (fun c => (b2i_x1 hv c).elim) (fun _ => ?_)
  refine E_iload_n dX6_heap_7 rfl ?_
  refine E_i2l dX6_heap_8 ?_
  refine E_ldc2 dX6_heap_9 qX6_69 ?_
  refine E_ldc2 dX6_heap_12 qX6_71 ?_
  refine E_callS (As := [.long (Int32.toInt64 c), .long (-1), .long 24]) (l' := [.long (Int32.toInt64 c), .null, .long (-1), .null, .long 24, .null]) (st := []) dX6_heap_15 kX6_73 sX6_isIn MX6_isIn rfl rfl (Nat.le_of_ble_eq_true rfl) (FC.use (c_isIn (d + 1) _ _ _) rfl (L2 := [(0, .inr (6, [.ref 1, .ref 5, .ref 7, .ref 10, .ref 18, .ref 26, .ref 31, .ref 35, .ref 37, .int (nI rk)])), (1, .inr (0, [.ref 2, .ref 3, .ref 4, .int (skn s), .int (sdr s), .int (swa s), .int (sbu s), .int (sni s)])), (2, .inl (false, 6, sce s)), (3, .inl (false, 6, she s)), (4, .inl (false, 6, stu s))]) rfl) (Nat.le_of_ble_eq_true rfl) (fun _ _ hq9 => E_fgo ?_ hq9)
  show E _ _ 18 [.ref 0, .int (nI h), .int c, .int t, .int u, .null, .null] [.int (b2i (inL (Int32.toInt64 c) (-1) 24))] (hov hp [(0, .inr (6, [.ref 1, .ref 5, .ref 7, .ref 10, .ref 18, .ref 26, .ref 31, .ref 35, .ref 37, .int (nI rk)])), (1, .inr (0, [.ref 2, .ref 3, .ref 4, .int (skn s), .int (sdr s), .int (swa s), .int (sbu s), .int (sni s)])), (2, .inl (false, 6, sce s)), (3, .inl (false, 6, she s)), (4, .inl (false, 6, stu s))]) _
  refine E_if_ne (tgt := 23) dX6_heap_18 (by decide) (fun _ => ?_) (fun c => (b2i_x1 hc c).elim)
  refine E_iload_n dX6_heap_23 rfl ?_
  refine E_if_ge (tgt := 31) dX6_heap_24 (by decide) (fun _ => ?_) (fun c => absurd hs c)
  refine E_bipush (v := 9) dX6_heap_31 (by decide) ?_
  refine E_istore (l2 := [.ref 0, .int (nI h), .int c, .int t, .int u, .int 9, .null]) dX6_heap_33 (by decide) rfl ?_
  refine E_iload_n dX6_heap_35 rfl ?_
  refine E_i2l dX6_heap_36 ?_
  refine E_lconst (v := 0) dX6_heap_37 (by decide) ?_
  refine E_iload dX6_heap_38 rfl ?_
  refine E_i2l dX6_heap_40 ?_
  refine E_callS (As := [.long (Int32.toInt64 t), .long 0, .long (Int32.toInt64 9)]) (l' := [.long (Int32.toInt64 t), .null, .long 0, .null, .long (Int32.toInt64 9), .null]) (st := []) dX6_heap_41 kX6_73 sX6_isIn MX6_isIn rfl rfl (Nat.le_of_ble_eq_true rfl) (FC.use (c_isIn (d + 1) _ _ _) rfl (L2 := [(0, .inr (6, [.ref 1, .ref 5, .ref 7, .ref 10, .ref 18, .ref 26, .ref 31, .ref 35, .ref 37, .int (nI rk)])), (1, .inr (0, [.ref 2, .ref 3, .ref 4, .int (skn s), .int (sdr s), .int (swa s), .int (sbu s), .int (sni s)])), (2, .inl (false, 6, sce s)), (3, .inl (false, 6, she s)), (4, .inl (false, 6, stu s))]) rfl) (Nat.le_of_ble_eq_true rfl) (fun _ _ hq9 => E_fgo ?_ hq9)
  show E _ _ 44 [.ref 0, .int (nI h), .int c, .int t, .int u, .int 9, .null] [.int (b2i (inL (Int32.toInt64 t) 0 (Int32.toInt64 9)))] (hov hp [(0, .inr (6, [.ref 1, .ref 5, .ref 7, .ref 10, .ref 18, .ref 26, .ref 31, .ref 35, .ref 37, .int (nI rk)])), (1, .inr (0, [.ref 2, .ref 3, .ref 4, .int (skn s), .int (sdr s), .int (swa s), .int (sbu s), .int (sni s)])), (2, .inl (false, 6, sce s)), (3, .inl (false, 6, she s)), (4, .inl (false, 6, stu s))]) _
  refine E_if_eq (tgt := 60) dX6_heap_44 (by decide) (fun c => (b2i_x1 h1 c).elim) (fun _ => ?_)
  refine E_iload dX6_heap_47 rfl ?_
  refine E_i2l dX6_heap_49 ?_
  refine E_lconst (v := 0) dX6_heap_50 (by decide) ?_
  refine E_ldc2 dX6_heap_51 qX6_77 ?_
  refine E_callS (As := [.long (Int32.toInt64 u), .long 0, .long 9]) (l' := [.long (Int32.toInt64 u), .null, .long 0, .null, .long 9, .null]) (st := []) dX6_heap_54 kX6_73 sX6_isIn MX6_isIn rfl rfl (Nat.le_of_ble_eq_true rfl) (FC.use (c_isIn (d + 1) _ _ _) rfl (L2 := [(0, .inr (6, [.ref 1, .ref 5, .ref 7, .ref 10, .ref 18, .ref 26, .ref 31, .ref 35, .ref 37, .int (nI rk)])), (1, .inr (0, [.ref 2, .ref 3, .ref 4, .int (skn s), .int (sdr s), .int (swa s), .int (sbu s), .int (sni s)])), (2, .inl (false, 6, sce s)), (3, .inl (false, 6, she s)), (4, .inl (false, 6, stu s))]) rfl) (Nat.le_of_ble_eq_true rfl) (fun _ _ hq9 => E_fgo ?_ hq9)
  show E _ _ 57 [.ref 0, .int (nI h), .int c, .int t, .int u, .int 9, .null] [.int (b2i (inL (Int32.toInt64 u) 0 9))] (hov hp [(0, .inr (6, [.ref 1, .ref 5, .ref 7, .ref 10, .ref 18, .ref 26, .ref 31, .ref 35, .ref 37, .int (nI rk)])), (1, .inr (0, [.ref 2, .ref 3, .ref 4, .int (skn s), .int (sdr s), .int (swa s), .int (sbu s), .int (sni s)])), (2, .inl (false, 6, sce s)), (3, .inl (false, 6, she s)), (4, .inl (false, 6, stu s))]) _
  refine E_if_ne (tgt := 63) dX6_heap_57 (by decide) (fun _ => ?_) (fun c => (b2i_x1 h2 c).elim)
  refine E_iload_n dX6_heap_63 rfl ?_
  refine E_if_lt (tgt := 82) dX6_heap_64 (by decide) (fun c => absurd hs (Int32.not_le.mpr c)) (fun _ => ?_)
  refine E_aload_n dX6_heap_67 rfl ?_
  refine E_get dX6_heap_68 fX6_12 (by decide) rfl rfl ?_
  refine E_iload_n dX6_heap_71 rfl ?_
  refine E_iload_n dX6_heap_72 rfl ?_
  refine E_callV (As := [.int c, .int (nI h)]) (l' := [.ref 1, .int c, .int (nI h), .null]) (st := []) dX6_heap_73 kX6_79 iX0_isTakenByAnother vX0_isTakenByAnother (by decide) rfl rfl MX0_isTakenByAnother rfl rfl (Nat.le_of_ble_eq_true rfl) (FC.use (c_isTaken_now (d + 1) (sce s) (she s) (stu s) (skn s) (sdr s) (swa s) (sbu s) (sni s) c h (by omega)) rfl (L2 := [(0, .inr (6, [.ref 1, .ref 5, .ref 7, .ref 10, .ref 18, .ref 26, .ref 31, .ref 35, .ref 37, .int (nI rk)])), (1, .inr (0, [.ref 2, .ref 3, .ref 4, .int (skn s), .int (sdr s), .int (swa s), .int (sbu s), .int (sni s)])), (2, .inl (false, 6, sce s)), (3, .inl (false, 6, she s)), (4, .inl (false, 6, stu s))]) rfl) (Nat.le_of_ble_eq_true rfl) (fun _ _ hq9 => E_fgo ?_ hq9)
  show E _ _ 76 [.ref 0, .int (nI h), .int c, .int t, .int u, .int 9, .null] [.int (b2i (anyB (takP (sce s) c h) 6))] (hov hp [(0, .inr (6, [.ref 1, .ref 5, .ref 7, .ref 10, .ref 18, .ref 26, .ref 31, .ref 35, .ref 37, .int (nI rk)])), (1, .inr (0, [.ref 2, .ref 3, .ref 4, .int (skn s), .int (sdr s), .int (swa s), .int (sbu s), .int (sni s)])), (2, .inl (false, 6, sce s)), (3, .inl (false, 6, she s)), (4, .inl (false, 6, stu s))]) _
  refine E_if_eq (tgt := 82) dX6_heap_76 (by decide) (fun c => (b2i_x1 hk c).elim) (fun _ => ?_)
  refine E_bipush (v := (-3)) dX6_heap_79 (by decide) ?_
  exact E_iretf dX6_heap_81 rfl rfl rfl rfl

set_option maxHeartbeats 4000000 in
set_option maxRecDepth 20000 in
theorem t_heap_pos (d : Nat) (rk : Nat) (s : CS) (h : Nat) (hh : h < 6) (c t u : Int32) (hv : inL (Int32.toInt64 (nI h)) 0 5 = true) (hc : inL (Int32.toInt64 c) (-1) 24 = true) (hs : 0 ≤ c) (h1 : inL (Int32.toInt64 t) 0 (Int32.toInt64 9) = true) (h2 : inL (Int32.toInt64 u) 0 9 = true) (hk : anyB (takP (sce s) c h) 6 = false) : FC YX6_heap (d + 2) [.ref 0, .int (nI h), .int c, .int t, .int u, .null, .null] [(0, .inr (6, [.ref 1, .ref 5, .ref 7, .ref 10, .ref 18, .ref 26, .ref 31, .ref 35, .ref 37, .int (nI rk)])), (1, .inr (0, [.ref 2, .ref 3, .ref 4, .int (skn s), .int (sdr s), .int (swa s), .int (sbu s), .int (sni s)])), (2, .inl (false, 6, sce s)), (3, .inl (false, 6, she s)), (4, .inl (false, 6, stu s))] (some (.int (sce s h))) [(0, .inr (6, [.ref 1, .ref 5, .ref 7, .ref 10, .ref 18, .ref 26, .ref 31, .ref 35, .ref 37, .int (nI rk)])), (1, .inr (0, [.ref 2, .ref 3, .ref 4, .int (skn s), .int (offB (sdr s) h), .int (offB (swa s) h), .int (sbu s), .int (sni s)])), (2, .inl (false, 6, (upd (sce s) h c))), (3, .inl (false, 6, (upd (she s) h t))), (4, .inl (false, 6, (upd (stu s) h u)))] := by
  intro hp
  refine E_iload_n dX6_heap_0 rfl ?_
  refine E_callS (As := [.int (nI h)]) (l' := [.int (nI h)]) (st := []) dX6_heap_1 kX6_65 sX6_isHeap MX6_isHeap rfl rfl (Nat.le_of_ble_eq_true rfl) (FC.use (c_isHeap d _) rfl (L2 := [(0, .inr (6, [.ref 1, .ref 5, .ref 7, .ref 10, .ref 18, .ref 26, .ref 31, .ref 35, .ref 37, .int (nI rk)])), (1, .inr (0, [.ref 2, .ref 3, .ref 4, .int (skn s), .int (sdr s), .int (swa s), .int (sbu s), .int (sni s)])), (2, .inl (false, 6, sce s)), (3, .inl (false, 6, she s)), (4, .inl (false, 6, stu s))]) rfl) (Nat.le_of_ble_eq_true rfl) (fun _ _ hq9 => E_fgo ?_ hq9)
  show E _ _ 4 [.ref 0, .int (nI h), .int c, .int t, .int u, .null, .null] [.int (b2i (inL (Int32.toInt64 (nI h)) 0 5))] (hov hp [(0, .inr (6, [.ref 1, .ref 5, .ref 7, .ref 10, .ref 18, .ref 26, .ref 31, .ref 35, .ref 37, .int (nI rk)])), (1, .inr (0, [.ref 2, .ref 3, .ref 4, .int (skn s), .int (sdr s), .int (swa s), .int (sbu s), .int (sni s)])), (2, .inl (false, 6, sce s)), (3, .inl (false, 6, she s)), (4, .inl (false, 6, stu s))]) _
  refine E_if_eq (tgt := 21) dX6_heap_4 (by decide) (fun c => (b2i_x1 hv c).elim) (fun _ => ?_)
  refine E_iload_n dX6_heap_7 rfl ?_
  refine E_i2l dX6_heap_8 ?_
  refine E_ldc2 dX6_heap_9 qX6_69 ?_
  refine E_ldc2 dX6_heap_12 qX6_71 ?_
  refine E_callS (As := [.long (Int32.toInt64 c), .long (-1), .long 24]) (l' := [.long (Int32.toInt64 c), .null, .long (-1), .null, .long 24, .null]) (st := []) dX6_heap_15 kX6_73 sX6_isIn MX6_isIn rfl rfl (Nat.le_of_ble_eq_true rfl) (FC.use (c_isIn (d + 1) _ _ _) rfl (L2 := [(0, .inr (6, [.ref 1, .ref 5, .ref 7, .ref 10, .ref 18, .ref 26, .ref 31, .ref 35, .ref 37, .int (nI rk)])), (1, .inr (0, [.ref 2, .ref 3, .ref 4, .int (skn s), .int (sdr s), .int (swa s), .int (sbu s), .int (sni s)])), (2, .inl (false, 6, sce s)), (3, .inl (false, 6, she s)), (4, .inl (false, 6, stu s))]) rfl) (Nat.le_of_ble_eq_true rfl) (fun _ _ hq9 => E_fgo ?_ hq9)
  show E _ _ 18 [.ref 0, .int (nI h), .int c, .int t, .int u, .null, .null] [.int (b2i (inL (Int32.toInt64 c) (-1) 24))] (hov hp [(0, .inr (6, [.ref 1, .ref 5, .ref 7, .ref 10, .ref 18, .ref 26, .ref 31, .ref 35, .ref 37, .int (nI rk)])), (1, .inr (0, [.ref 2, .ref 3, .ref 4, .int (skn s), .int (sdr s), .int (swa s), .int (sbu s), .int (sni s)])), (2, .inl (false, 6, sce s)), (3, .inl (false, 6, she s)), (4, .inl (false, 6, stu s))]) _
  refine E_if_ne (tgt := 23) dX6_heap_18 (by decide) (fun _ => ?_) (fun c => (b2i_x1 hc c).elim)
  refine E_iload_n dX6_heap_23 rfl ?_
  refine E_if_ge (tgt := 31) dX6_heap_24 (by decide) (fun _ => ?_) (fun c => absurd hs c)
  refine E_bipush (v := 9) dX6_heap_31 (by decide) ?_
  refine E_istore (l2 := [.ref 0, .int (nI h), .int c, .int t, .int u, .int 9, .null]) dX6_heap_33 (by decide) rfl ?_
  refine E_iload_n dX6_heap_35 rfl ?_
  refine E_i2l dX6_heap_36 ?_
  refine E_lconst (v := 0) dX6_heap_37 (by decide) ?_
  refine E_iload dX6_heap_38 rfl ?_
  refine E_i2l dX6_heap_40 ?_
  refine E_callS (As := [.long (Int32.toInt64 t), .long 0, .long (Int32.toInt64 9)]) (l' := [.long (Int32.toInt64 t), .null, .long 0, .null, .long (Int32.toInt64 9), .null]) (st := []) dX6_heap_41 kX6_73 sX6_isIn MX6_isIn rfl rfl (Nat.le_of_ble_eq_true rfl) (FC.use (c_isIn (d + 1) _ _ _) rfl (L2 := [(0, .inr (6, [.ref 1, .ref 5, .ref 7, .ref 10, .ref 18, .ref 26, .ref 31, .ref 35, .ref 37, .int (nI rk)])), (1, .inr (0, [.ref 2, .ref 3, .ref 4, .int (skn s), .int (sdr s), .int (swa s), .int (sbu s), .int (sni s)])), (2, .inl (false, 6, sce s)), (3, .inl (false, 6, she s)), (4, .inl (false, 6, stu s))]) rfl) (Nat.le_of_ble_eq_true rfl) (fun _ _ hq9 => E_fgo ?_ hq9)
  show E _ _ 44 [.ref 0, .int (nI h), .int c, .int t, .int u, .int 9, .null] [.int (b2i (inL (Int32.toInt64 t) 0 (Int32.toInt64 9)))] (hov hp [(0, .inr (6, [.ref 1, .ref 5, .ref 7, .ref 10, .ref 18, .ref 26, .ref 31, .ref 35, .ref 37, .int (nI rk)])), (1, .inr (0, [.ref 2, .ref 3, .ref 4, .int (skn s), .int (sdr s), .int (swa s), .int (sbu s), .int (sni s)])), (2, .inl (false, 6, sce s)), (3, .inl (false, 6, she s)), (4, .inl (false, 6, stu s))]) _
  refine E_if_eq (tgt := 60) dX6_heap_44 (by decide) (fun c => (b2i_x1 h1 c).elim) (fun _ => ?_)
  refine E_iload dX6_heap_47 rfl ?_
  refine E_i2l dX6_heap_49 ?_
  refine E_lconst (v := 0) dX6_heap_50 (by decide) ?_
  refine E_ldc2 dX6_heap_51 qX6_77 ?_
  refine E_callS (As := [.long (Int32.toInt64 u), .long 0, .long 9]) (l' := [.long (Int32.toInt64 u), .null, .long 0, .null, .long 9, .null]) (st := []) dX6_heap_54 kX6_73 sX6_isIn MX6_isIn rfl rfl (Nat.le_of_ble_eq_true rfl) (FC.use (c_isIn (d + 1) _ _ _) rfl (L2 := [(0, .inr (6, [.ref 1, .ref 5, .ref 7, .ref 10, .ref 18, .ref 26, .ref 31, .ref 35, .ref 37, .int (nI rk)])), (1, .inr (0, [.ref 2, .ref 3, .ref 4, .int (skn s), .int (sdr s), .int (swa s), .int (sbu s), .int (sni s)])), (2, .inl (false, 6, sce s)), (3, .inl (false, 6, she s)), (4, .inl (false, 6, stu s))]) rfl) (Nat.le_of_ble_eq_true rfl) (fun _ _ hq9 => E_fgo ?_ hq9)
  show E _ _ 57 [.ref 0, .int (nI h), .int c, .int t, .int u, .int 9, .null] [.int (b2i (inL (Int32.toInt64 u) 0 9))] (hov hp [(0, .inr (6, [.ref 1, .ref 5, .ref 7, .ref 10, .ref 18, .ref 26, .ref 31, .ref 35, .ref 37, .int (nI rk)])), (1, .inr (0, [.ref 2, .ref 3, .ref 4, .int (skn s), .int (sdr s), .int (swa s), .int (sbu s), .int (sni s)])), (2, .inl (false, 6, sce s)), (3, .inl (false, 6, she s)), (4, .inl (false, 6, stu s))]) _
  refine E_if_ne (tgt := 63) dX6_heap_57 (by decide) (fun _ => ?_) (fun c => (b2i_x1 h2 c).elim)
  refine E_iload_n dX6_heap_63 rfl ?_
  refine E_if_lt (tgt := 82) dX6_heap_64 (by decide) (fun c => absurd hs (Int32.not_le.mpr c)) (fun _ => ?_)
  refine E_aload_n dX6_heap_67 rfl ?_
  refine E_get dX6_heap_68 fX6_12 (by decide) rfl rfl ?_
  refine E_iload_n dX6_heap_71 rfl ?_
  refine E_iload_n dX6_heap_72 rfl ?_
  refine E_callV (As := [.int c, .int (nI h)]) (l' := [.ref 1, .int c, .int (nI h), .null]) (st := []) dX6_heap_73 kX6_79 iX0_isTakenByAnother vX0_isTakenByAnother (by decide) rfl rfl MX0_isTakenByAnother rfl rfl (Nat.le_of_ble_eq_true rfl) (FC.use (c_isTaken_now (d + 1) (sce s) (she s) (stu s) (skn s) (sdr s) (swa s) (sbu s) (sni s) c h (by omega)) rfl (L2 := [(0, .inr (6, [.ref 1, .ref 5, .ref 7, .ref 10, .ref 18, .ref 26, .ref 31, .ref 35, .ref 37, .int (nI rk)])), (1, .inr (0, [.ref 2, .ref 3, .ref 4, .int (skn s), .int (sdr s), .int (swa s), .int (sbu s), .int (sni s)])), (2, .inl (false, 6, sce s)), (3, .inl (false, 6, she s)), (4, .inl (false, 6, stu s))]) rfl) (Nat.le_of_ble_eq_true rfl) (fun _ _ hq9 => E_fgo ?_ hq9)
  show E _ _ 76 [.ref 0, .int (nI h), .int c, .int t, .int u, .int 9, .null] [.int (b2i (anyB (takP (sce s) c h) 6))] (hov hp [(0, .inr (6, [.ref 1, .ref 5, .ref 7, .ref 10, .ref 18, .ref 26, .ref 31, .ref 35, .ref 37, .int (nI rk)])), (1, .inr (0, [.ref 2, .ref 3, .ref 4, .int (skn s), .int (sdr s), .int (swa s), .int (sbu s), .int (sni s)])), (2, .inl (false, 6, sce s)), (3, .inl (false, 6, she s)), (4, .inl (false, 6, stu s))]) _
  refine E_if_eq (tgt := 82) dX6_heap_76 (by decide) (fun _ => ?_) (fun c => (b2i_x0 hk c).elim)
  refine E_aload_n dX6_heap_82 rfl ?_
  refine E_get dX6_heap_83 fX6_12 (by decide) rfl rfl ?_
  refine E_get dX6_heap_86 fX6_83 (by decide) rfl rfl ?_
  refine E_iload_n dX6_heap_89 rfl ?_
  refine E_ialdN (j := h) dX6_heap_90 (by decide) rfl (by omega) (by decide) ?_
  refine E_istore (l2 := [.ref 0, .int (nI h), .int c, .int t, .int u, .int 9, .int ((sce s) h)]) dX6_heap_91 (by decide) rfl ?_
  refine E_aload_n dX6_heap_93 rfl ?_
  refine E_get dX6_heap_94 fX6_12 (by decide) rfl rfl ?_
  refine E_iload_n dX6_heap_97 rfl ?_
  refine E_iload_n dX6_heap_98 rfl ?_
  refine E_if_ge (tgt := 107) dX6_heap_99 (by decide) (fun _ => ?_) (fun c => absurd hs c)
  refine E_iload_n dX6_heap_107 rfl ?_
  refine E_iload_n dX6_heap_108 rfl ?_
  refine E_iload dX6_heap_109 rfl ?_
  refine E_callV (As := [.int (nI h), .int c, .int t, .int u]) (l' := [.ref 1, .int (nI h), .int c, .int t, .int u]) (st := []) dX6_heap_111 kX6_86 iX0_put vX0_put (by decide) rfl rfl MX0_put rfl rfl (Nat.le_of_ble_eq_true rfl) (FC.use (c_put (d + 1) s h (by omega) c t u) rfl (L2 := [(0, .inr (6, [.ref 1, .ref 5, .ref 7, .ref 10, .ref 18, .ref 26, .ref 31, .ref 35, .ref 37, .int (nI rk)])), (1, .inr (0, [.ref 2, .ref 3, .ref 4, .int (skn s), .int (offB (sdr s) h), .int (offB (swa s) h), .int (sbu s), .int (sni s)])), (2, .inl (false, 6, (upd (sce s) h c))), (3, .inl (false, 6, (upd (she s) h t))), (4, .inl (false, 6, (upd (stu s) h u)))]) rfl) (Nat.le_of_ble_eq_true rfl) (fun _ _ hq9 => E_fgo ?_ hq9)
  show E _ _ 114 [.ref 0, .int (nI h), .int c, .int t, .int u, .int 9, .int ((sce s) h)] [] (hov hp [(0, .inr (6, [.ref 1, .ref 5, .ref 7, .ref 10, .ref 18, .ref 26, .ref 31, .ref 35, .ref 37, .int (nI rk)])), (1, .inr (0, [.ref 2, .ref 3, .ref 4, .int (skn s), .int (offB (sdr s) h), .int (offB (swa s) h), .int (sbu s), .int (sni s)])), (2, .inl (false, 6, (upd (sce s) h c))), (3, .inl (false, 6, (upd (she s) h t))), (4, .inl (false, 6, (upd (stu s) h u)))]) _
  refine E_iload dX6_heap_114 rfl ?_
  exact E_iretf dX6_heap_116 rfl rfl rfl rfl

set_option maxHeartbeats 4000000 in
set_option maxRecDepth 20000 in
theorem t_burn_out (d : Nat) (rk : Nat) (v : Int32) (hv : inL (Int32.toInt64 v) 0 6 = false) : FC YX6_burners (d + 1) [.ref 0, .int v, .null] [(0, .inr (6, [.ref 1, .ref 5, .ref 7, .ref 10, .ref 18, .ref 26, .ref 31, .ref 35, .ref 37, .int (nI rk)]))] (some (.int (-2))) [(0, .inr (6, [.ref 1, .ref 5, .ref 7, .ref 10, .ref 18, .ref 26, .ref 31, .ref 35, .ref 37, .int (nI rk)]))] := by
  intro hp
  refine E_iload_n dX6_burners_0 rfl ?_
  refine E_i2l dX6_burners_1 ?_
  refine E_lconst (v := 0) dX6_burners_2 (by decide) ?_
  refine E_ldc2 dX6_burners_3 qX6_90 ?_
  refine E_callS (As := [.long (Int32.toInt64 v), .long 0, .long 6]) (l' := [.long (Int32.toInt64 v), .null, .long 0, .null, .long 6, .null]) (st := []) dX6_burners_6 kX6_73 sX6_isIn MX6_isIn rfl rfl (Nat.le_of_ble_eq_true rfl) (FC.use (c_isIn d _ _ _) rfl (L2 := [(0, .inr (6, [.ref 1, .ref 5, .ref 7, .ref 10, .ref 18, .ref 26, .ref 31, .ref 35, .ref 37, .int (nI rk)]))]) rfl) (Nat.le_of_ble_eq_true rfl) (fun _ _ hq9 => E_fgo ?_ hq9)
  show E _ _ 9 [.ref 0, .int v, .null] [.int (b2i (inL (Int32.toInt64 v) 0 6))] (hov hp [(0, .inr (6, [.ref 1, .ref 5, .ref 7, .ref 10, .ref 18, .ref 26, .ref 31, .ref 35, .ref 37, .int (nI rk)]))]) _
  refine E_if_ne (tgt := 15) dX6_burners_9 (by decide) (fun c => (b2i_x0 hv c).elim) (fun _ => ?_)
  refine E_bipush (v := (-2)) dX6_burners_12 (by decide) ?_
  exact E_iretf dX6_burners_14 rfl rfl rfl rfl

set_option maxHeartbeats 4000000 in
set_option maxRecDepth 20000 in
theorem t_burn_state (d : Nat) (rk : Nat) (s : CS) (v : Int32) (hv : inL (Int32.toInt64 v) 0 6 = true) (hb : v < bcI (swa s)) : FC YX6_burners (d + 1) [.ref 0, .int v, .null] [(0, .inr (6, [.ref 1, .ref 5, .ref 7, .ref 10, .ref 18, .ref 26, .ref 31, .ref 35, .ref 37, .int (nI rk)])), (1, .inr (0, [.ref 2, .ref 3, .ref 4, .int (skn s), .int (sdr s), .int (swa s), .int (sbu s), .int (sni s)])), (2, .inl (false, 6, sce s)), (3, .inl (false, 6, she s)), (4, .inl (false, 6, stu s))] (some (.int (-3))) [(0, .inr (6, [.ref 1, .ref 5, .ref 7, .ref 10, .ref 18, .ref 26, .ref 31, .ref 35, .ref 37, .int (nI rk)])), (1, .inr (0, [.ref 2, .ref 3, .ref 4, .int (skn s), .int (sdr s), .int (swa s), .int (sbu s), .int (sni s)])), (2, .inl (false, 6, sce s)), (3, .inl (false, 6, she s)), (4, .inl (false, 6, stu s))] := by
  intro hp
  refine E_iload_n dX6_burners_0 rfl ?_
  refine E_i2l dX6_burners_1 ?_
  refine E_lconst (v := 0) dX6_burners_2 (by decide) ?_
  refine E_ldc2 dX6_burners_3 qX6_90 ?_
  refine E_callS (As := [.long (Int32.toInt64 v), .long 0, .long 6]) (l' := [.long (Int32.toInt64 v), .null, .long 0, .null, .long 6, .null]) (st := []) dX6_burners_6 kX6_73 sX6_isIn MX6_isIn rfl rfl (Nat.le_of_ble_eq_true rfl) (FC.use (c_isIn d _ _ _) rfl (L2 := [(0, .inr (6, [.ref 1, .ref 5, .ref 7, .ref 10, .ref 18, .ref 26, .ref 31, .ref 35, .ref 37, .int (nI rk)])), (1, .inr (0, [.ref 2, .ref 3, .ref 4, .int (skn s), .int (sdr s), .int (swa s), .int (sbu s), .int (sni s)])), (2, .inl (false, 6, sce s)), (3, .inl (false, 6, she s)), (4, .inl (false, 6, stu s))]) rfl) (Nat.le_of_ble_eq_true rfl) (fun _ _ hq9 => E_fgo ?_ hq9)
  show E _ _ 9 [.ref 0, .int v, .null] [.int (b2i (inL (Int32.toInt64 v) 0 6))] (hov hp [(0, .inr (6, [.ref 1, .ref 5, .ref 7, .ref 10, .ref 18, .ref 26, .ref 31, .ref 35, .ref 37, .int (nI rk)])), (1, .inr (0, [.ref 2, .ref 3, .ref 4, .int (skn s), .int (sdr s), .int (swa s), .int (sbu s), .int (sni s)])), (2, .inl (false, 6, sce s)), (3, .inl (false, 6, she s)), (4, .inl (false, 6, stu s))]) _
  refine E_if_ne (tgt := 15) dX6_burners_9 (by decide) (fun _ => ?_) (fun c => (b2i_x1 hv c).elim)
  refine E_aload_n dX6_burners_15 rfl ?_
  refine E_get dX6_burners_16 fX6_12 (by decide) rfl rfl ?_
  refine E_get dX6_burners_19 fX6_92 (by decide) rfl rfl ?_
  refine E_callS (As := [.int (swa s)]) (l' := [.int (swa s)]) (st := []) dX6_burners_22 kX6_95 sJ6_bitCount_0f7a4 MJ6_bitCount_0f7a4 rfl rfl (Nat.le_of_ble_eq_true rfl) (FC.use (c_bitCount d _) rfl (L2 := [(0, .inr (6, [.ref 1, .ref 5, .ref 7, .ref 10, .ref 18, .ref 26, .ref 31, .ref 35, .ref 37, .int (nI rk)])), (1, .inr (0, [.ref 2, .ref 3, .ref 4, .int (skn s), .int (sdr s), .int (swa s), .int (sbu s), .int (sni s)])), (2, .inl (false, 6, sce s)), (3, .inl (false, 6, she s)), (4, .inl (false, 6, stu s))]) rfl) (Nat.le_of_ble_eq_true rfl) (fun _ _ hq9 => E_fgo ?_ hq9)
  show E _ _ 25 [.ref 0, .int v, .null] [.int (bcI (swa s))] (hov hp [(0, .inr (6, [.ref 1, .ref 5, .ref 7, .ref 10, .ref 18, .ref 26, .ref 31, .ref 35, .ref 37, .int (nI rk)])), (1, .inr (0, [.ref 2, .ref 3, .ref 4, .int (skn s), .int (sdr s), .int (swa s), .int (sbu s), .int (sni s)])), (2, .inl (false, 6, sce s)), (3, .inl (false, 6, she s)), (4, .inl (false, 6, stu s))]) _
  refine E_iload_n dX6_burners_25 rfl ?_
  refine E_icmp_le (tgt := 32) dX6_burners_26 (by decide) (fun c => absurd c (Int32.not_le.mpr hb)) (fun _ => ?_)
  refine E_bipush (v := (-3)) dX6_burners_29 (by decide) ?_
  exact E_iretf dX6_burners_31 rfl rfl rfl rfl

set_option maxHeartbeats 4000000 in
set_option maxRecDepth 20000 in
theorem t_burn_ok (d : Nat) (rk : Nat) (s : CS) (v : Int32) (hv : inL (Int32.toInt64 v) 0 6 = true) (hb : bcI (swa s) ≤ v) : FC YX6_burners (d + 1) [.ref 0, .int v, .null] [(0, .inr (6, [.ref 1, .ref 5, .ref 7, .ref 10, .ref 18, .ref 26, .ref 31, .ref 35, .ref 37, .int (nI rk)])), (1, .inr (0, [.ref 2, .ref 3, .ref 4, .int (skn s), .int (sdr s), .int (swa s), .int (sbu s), .int (sni s)])), (2, .inl (false, 6, sce s)), (3, .inl (false, 6, she s)), (4, .inl (false, 6, stu s))] (some (.int (sbu s))) [(0, .inr (6, [.ref 1, .ref 5, .ref 7, .ref 10, .ref 18, .ref 26, .ref 31, .ref 35, .ref 37, .int (nI rk)])), (1, .inr (0, [.ref 2, .ref 3, .ref 4, .int (skn s), .int (sdr s), .int (swa s), .int v, .int (sni s)])), (2, .inl (false, 6, sce s)), (3, .inl (false, 6, she s)), (4, .inl (false, 6, stu s))] := by
  intro hp
  refine E_iload_n dX6_burners_0 rfl ?_
  refine E_i2l dX6_burners_1 ?_
  refine E_lconst (v := 0) dX6_burners_2 (by decide) ?_
  refine E_ldc2 dX6_burners_3 qX6_90 ?_
  refine E_callS (As := [.long (Int32.toInt64 v), .long 0, .long 6]) (l' := [.long (Int32.toInt64 v), .null, .long 0, .null, .long 6, .null]) (st := []) dX6_burners_6 kX6_73 sX6_isIn MX6_isIn rfl rfl (Nat.le_of_ble_eq_true rfl) (FC.use (c_isIn d _ _ _) rfl (L2 := [(0, .inr (6, [.ref 1, .ref 5, .ref 7, .ref 10, .ref 18, .ref 26, .ref 31, .ref 35, .ref 37, .int (nI rk)])), (1, .inr (0, [.ref 2, .ref 3, .ref 4, .int (skn s), .int (sdr s), .int (swa s), .int (sbu s), .int (sni s)])), (2, .inl (false, 6, sce s)), (3, .inl (false, 6, she s)), (4, .inl (false, 6, stu s))]) rfl) (Nat.le_of_ble_eq_true rfl) (fun _ _ hq9 => E_fgo ?_ hq9)
  show E _ _ 9 [.ref 0, .int v, .null] [.int (b2i (inL (Int32.toInt64 v) 0 6))] (hov hp [(0, .inr (6, [.ref 1, .ref 5, .ref 7, .ref 10, .ref 18, .ref 26, .ref 31, .ref 35, .ref 37, .int (nI rk)])), (1, .inr (0, [.ref 2, .ref 3, .ref 4, .int (skn s), .int (sdr s), .int (swa s), .int (sbu s), .int (sni s)])), (2, .inl (false, 6, sce s)), (3, .inl (false, 6, she s)), (4, .inl (false, 6, stu s))]) _
  refine E_if_ne (tgt := 15) dX6_burners_9 (by decide) (fun _ => ?_) (fun c => (b2i_x1 hv c).elim)
  refine E_aload_n dX6_burners_15 rfl ?_
  refine E_get dX6_burners_16 fX6_12 (by decide) rfl rfl ?_
  refine E_get dX6_burners_19 fX6_92 (by decide) rfl rfl ?_
  refine E_callS (As := [.int (swa s)]) (l' := [.int (swa s)]) (st := []) dX6_burners_22 kX6_95 sJ6_bitCount_0f7a4 MJ6_bitCount_0f7a4 rfl rfl (Nat.le_of_ble_eq_true rfl) (FC.use (c_bitCount d _) rfl (L2 := [(0, .inr (6, [.ref 1, .ref 5, .ref 7, .ref 10, .ref 18, .ref 26, .ref 31, .ref 35, .ref 37, .int (nI rk)])), (1, .inr (0, [.ref 2, .ref 3, .ref 4, .int (skn s), .int (sdr s), .int (swa s), .int (sbu s), .int (sni s)])), (2, .inl (false, 6, sce s)), (3, .inl (false, 6, she s)), (4, .inl (false, 6, stu s))]) rfl) (Nat.le_of_ble_eq_true rfl) (fun _ _ hq9 => E_fgo ?_ hq9)
  show E _ _ 25 [.ref 0, .int v, .null] [.int (bcI (swa s))] (hov hp [(0, .inr (6, [.ref 1, .ref 5, .ref 7, .ref 10, .ref 18, .ref 26, .ref 31, .ref 35, .ref 37, .int (nI rk)])), (1, .inr (0, [.ref 2, .ref 3, .ref 4, .int (skn s), .int (sdr s), .int (swa s), .int (sbu s), .int (sni s)])), (2, .inl (false, 6, sce s)), (3, .inl (false, 6, she s)), (4, .inl (false, 6, stu s))]) _
  refine E_iload_n dX6_burners_25 rfl ?_
  refine E_icmp_le (tgt := 32) dX6_burners_26 (by decide) (fun _ => ?_) (fun c => absurd hb c)
  refine E_aload_n dX6_burners_32 rfl ?_
  refine E_get dX6_burners_33 fX6_12 (by decide) rfl rfl ?_
  refine E_get dX6_burners_36 fX6_101 (by decide) rfl rfl ?_
  refine E_istore_n (l2 := [.ref 0, .int v, .int (sbu s)]) dX6_burners_39 rfl (by decide) rfl ?_
  refine E_aload_n dX6_burners_40 rfl ?_
  refine E_get dX6_burners_41 fX6_12 (by decide) rfl rfl ?_
  refine E_iload_n dX6_burners_44 rfl ?_
  refine E_puti (fs2 := [.ref 2, .ref 3, .ref 4, .int (skn s), .int (sdr s), .int (swa s), .int v, .int (sni s)]) (L2 := [(0, .inr (6, [.ref 1, .ref 5, .ref 7, .ref 10, .ref 18, .ref 26, .ref 31, .ref 35, .ref 37, .int (nI rk)])), (1, .inr (0, [.ref 2, .ref 3, .ref 4, .int (skn s), .int (sdr s), .int (swa s), .int v, .int (sni s)])), (2, .inl (false, 6, sce s)), (3, .inl (false, 6, she s)), (4, .inl (false, 6, stu s))]) dX6_burners_45 fX6_101 fpX0_6 (by decide) rfl (Nat.le_of_ble_eq_true rfl) rfl rfl ?_
  refine E_iload_n dX6_burners_48 rfl ?_
  exact E_iretf dX6_burners_49 rfl rfl rfl rfl

set_option maxHeartbeats 4000000 in
set_option maxRecDepth 20000 in
theorem t_say_out (d : Nat) (rk : Nat) (v : Int32) (hv : inL (Int32.toInt64 v) 33 126 = false) : FC YX6_say (d + 1) [.ref 0, .int v] [(0, .inr (6, [.ref 1, .ref 5, .ref 7, .ref 10, .ref 18, .ref 26, .ref 31, .ref 35, .ref 37, .int (nI rk)]))] (some (.int (-2))) [(0, .inr (6, [.ref 1, .ref 5, .ref 7, .ref 10, .ref 18, .ref 26, .ref 31, .ref 35, .ref 37, .int (nI rk)]))] := by
  intro hp
  refine E_iload_n dX6_say_0 rfl ?_
  refine E_i2l dX6_say_1 ?_
  refine E_ldc2 dX6_say_2 qX6_104 ?_
  refine E_ldc2 dX6_say_5 qX6_106 ?_
  refine E_callS (As := [.long (Int32.toInt64 v), .long 33, .long 126]) (l' := [.long (Int32.toInt64 v), .null, .long 33, .null, .long 126, .null]) (st := []) dX6_say_8 kX6_73 sX6_isIn MX6_isIn rfl rfl (Nat.le_of_ble_eq_true rfl) (FC.use (c_isIn d _ _ _) rfl (L2 := [(0, .inr (6, [.ref 1, .ref 5, .ref 7, .ref 10, .ref 18, .ref 26, .ref 31, .ref 35, .ref 37, .int (nI rk)]))]) rfl) (Nat.le_of_ble_eq_true rfl) (fun _ _ hq9 => E_fgo ?_ hq9)
  show E _ _ 11 [.ref 0, .int v] [.int (b2i (inL (Int32.toInt64 v) 33 126))] (hov hp [(0, .inr (6, [.ref 1, .ref 5, .ref 7, .ref 10, .ref 18, .ref 26, .ref 31, .ref 35, .ref 37, .int (nI rk)]))]) _
  refine E_if_ne (tgt := 17) dX6_say_11 (by decide) (fun c => (b2i_x0 hv c).elim) (fun _ => ?_)
  refine E_bipush (v := (-2)) dX6_say_14 (by decide) ?_
  exact E_iretf dX6_say_16 rfl rfl rfl rfl

set_option maxHeartbeats 4000000 in
set_option maxRecDepth 20000 in
theorem t_say_ok (d : Nat) (rk : Nat) (f : Nat → Int32) (n : Nat) (hn : n < 60) (v : Int32) (hv : inL (Int32.toInt64 v) 33 126 = true) : FC YX6_say (d + 1) [.ref 0, .int v] [(0, .inr (6, [.ref 1, .ref 5, .ref 7, .ref 10, .ref 18, .ref 26, .ref 31, .ref 35, .ref 37, .int (nI rk)])), (5, .inr (3, [.ref 6, .int (nI n)])), (6, .inl (false, 60, f))] (some (.int (nI (n + 1)))) [(0, .inr (6, [.ref 1, .ref 5, .ref 7, .ref 10, .ref 18, .ref 26, .ref 31, .ref 35, .ref 37, .int (nI rk)])), (5, .inr (3, [.ref 6, .int (nI (n + 1))])), (6, .inl (false, 60, (upd f n v)))] := by
  intro hp
  refine E_iload_n dX6_say_0 rfl ?_
  refine E_i2l dX6_say_1 ?_
  refine E_ldc2 dX6_say_2 qX6_104 ?_
  refine E_ldc2 dX6_say_5 qX6_106 ?_
  refine E_callS (As := [.long (Int32.toInt64 v), .long 33, .long 126]) (l' := [.long (Int32.toInt64 v), .null, .long 33, .null, .long 126, .null]) (st := []) dX6_say_8 kX6_73 sX6_isIn MX6_isIn rfl rfl (Nat.le_of_ble_eq_true rfl) (FC.use (c_isIn d _ _ _) rfl (L2 := [(0, .inr (6, [.ref 1, .ref 5, .ref 7, .ref 10, .ref 18, .ref 26, .ref 31, .ref 35, .ref 37, .int (nI rk)])), (5, .inr (3, [.ref 6, .int (nI n)])), (6, .inl (false, 60, f))]) rfl) (Nat.le_of_ble_eq_true rfl) (fun _ _ hq9 => E_fgo ?_ hq9)
  show E _ _ 11 [.ref 0, .int v] [.int (b2i (inL (Int32.toInt64 v) 33 126))] (hov hp [(0, .inr (6, [.ref 1, .ref 5, .ref 7, .ref 10, .ref 18, .ref 26, .ref 31, .ref 35, .ref 37, .int (nI rk)])), (5, .inr (3, [.ref 6, .int (nI n)])), (6, .inl (false, 60, f))]) _
  refine E_if_ne (tgt := 17) dX6_say_11 (by decide) (fun _ => ?_) (fun c => (b2i_x1 hv c).elim)
  refine E_aload_n dX6_say_17 rfl ?_
  refine E_get dX6_say_18 fX6_19 (by decide) rfl rfl ?_
  refine E_iload_n dX6_say_21 rfl ?_
  refine E_callV (As := [.int v]) (l' := [.ref 5, .int v]) (st := []) dX6_say_22 kX6_108 iX3_append vX3_append (by decide) rfl rfl MX3_append rfl rfl (Nat.le_of_ble_eq_true rfl) (FC.use (c_pad_add d f n hn v) rfl (L2 := [(0, .inr (6, [.ref 1, .ref 5, .ref 7, .ref 10, .ref 18, .ref 26, .ref 31, .ref 35, .ref 37, .int (nI rk)])), (5, .inr (3, [.ref 6, .int (nI (n + 1))])), (6, .inl (false, 60, (upd f n v)))]) rfl) (Nat.le_of_ble_eq_true rfl) (fun _ _ hq9 => E_fgo ?_ hq9)
  show E _ _ 25 [.ref 0, .int v] [.int (b2i true)] (hov hp [(0, .inr (6, [.ref 1, .ref 5, .ref 7, .ref 10, .ref 18, .ref 26, .ref 31, .ref 35, .ref 37, .int (nI rk)])), (5, .inr (3, [.ref 6, .int (nI (n + 1))])), (6, .inl (false, 60, (upd f n v)))]) _
  refine E_if_eq (tgt := 38) dX6_say_25 (by decide) (fun c => (b2i_x1 rfl c).elim) (fun _ => ?_)
  refine E_aload_n dX6_say_28 rfl ?_
  refine E_get dX6_say_29 fX6_19 (by decide) rfl rfl ?_
  refine E_get dX6_say_32 fX6_111 (by decide) rfl rfl ?_
  refine E_goto (tgt := 40) dX6_say_35 (by decide) ?_
  exact E_iretf dX6_say_40 rfl rfl rfl rfl

set_option maxHeartbeats 4000000 in
set_option maxRecDepth 20000 in
theorem t_say_full (d : Nat) (rk : Nat) (f : Nat → Int32) (v : Int32) (hv : inL (Int32.toInt64 v) 33 126 = true) : FC YX6_say (d + 1) [.ref 0, .int v] [(0, .inr (6, [.ref 1, .ref 5, .ref 7, .ref 10, .ref 18, .ref 26, .ref 31, .ref 35, .ref 37, .int (nI rk)])), (5, .inr (3, [.ref 6, .int (nI 60)])), (6, .inl (false, 60, f))] (some (.int (-4))) [(0, .inr (6, [.ref 1, .ref 5, .ref 7, .ref 10, .ref 18, .ref 26, .ref 31, .ref 35, .ref 37, .int (nI rk)])), (5, .inr (3, [.ref 6, .int (nI 60)])), (6, .inl (false, 60, f))] := by
  intro hp
  refine E_iload_n dX6_say_0 rfl ?_
  refine E_i2l dX6_say_1 ?_
  refine E_ldc2 dX6_say_2 qX6_104 ?_
  refine E_ldc2 dX6_say_5 qX6_106 ?_
  refine E_callS (As := [.long (Int32.toInt64 v), .long 33, .long 126]) (l' := [.long (Int32.toInt64 v), .null, .long 33, .null, .long 126, .null]) (st := []) dX6_say_8 kX6_73 sX6_isIn MX6_isIn rfl rfl (Nat.le_of_ble_eq_true rfl) (FC.use (c_isIn d _ _ _) rfl (L2 := [(0, .inr (6, [.ref 1, .ref 5, .ref 7, .ref 10, .ref 18, .ref 26, .ref 31, .ref 35, .ref 37, .int (nI rk)])), (5, .inr (3, [.ref 6, .int (nI 60)])), (6, .inl (false, 60, f))]) rfl) (Nat.le_of_ble_eq_true rfl) (fun _ _ hq9 => E_fgo ?_ hq9)
  show E _ _ 11 [.ref 0, .int v] [.int (b2i (inL (Int32.toInt64 v) 33 126))] (hov hp [(0, .inr (6, [.ref 1, .ref 5, .ref 7, .ref 10, .ref 18, .ref 26, .ref 31, .ref 35, .ref 37, .int (nI rk)])), (5, .inr (3, [.ref 6, .int (nI 60)])), (6, .inl (false, 60, f))]) _
  refine E_if_ne (tgt := 17) dX6_say_11 (by decide) (fun _ => ?_) (fun c => (b2i_x1 hv c).elim)
  refine E_aload_n dX6_say_17 rfl ?_
  refine E_get dX6_say_18 fX6_19 (by decide) rfl rfl ?_
  refine E_iload_n dX6_say_21 rfl ?_
  refine E_callV (As := [.int v]) (l' := [.ref 5, .int v]) (st := []) dX6_say_22 kX6_108 iX3_append vX3_append (by decide) rfl rfl MX3_append rfl rfl (Nat.le_of_ble_eq_true rfl) (FC.use (c_pad_full d f v) rfl (L2 := [(0, .inr (6, [.ref 1, .ref 5, .ref 7, .ref 10, .ref 18, .ref 26, .ref 31, .ref 35, .ref 37, .int (nI rk)])), (5, .inr (3, [.ref 6, .int (nI 60)])), (6, .inl (false, 60, f))]) rfl) (Nat.le_of_ble_eq_true rfl) (fun _ _ hq9 => E_fgo ?_ hq9)
  show E _ _ 25 [.ref 0, .int v] [.int (b2i false)] (hov hp [(0, .inr (6, [.ref 1, .ref 5, .ref 7, .ref 10, .ref 18, .ref 26, .ref 31, .ref 35, .ref 37, .int (nI rk)])), (5, .inr (3, [.ref 6, .int (nI 60)])), (6, .inl (false, 60, f))]) _
  refine E_if_eq (tgt := 38) dX6_say_25 (by decide) (fun _ => ?_) (fun c => (b2i_x0 rfl c).elim)
  refine E_bipush (v := (-4)) dX6_say_38 (by decide) ?_
  exact E_iretf dX6_say_40 rfl rfl rfl rfl

set_option maxHeartbeats 4000000 in
set_option maxRecDepth 20000 in
theorem t_wipe (d : Nat) (rk : Nat) (f : Nat → Int32) (n : Nat) : FC YX6_wipe d [.ref 0, .null] [(0, .inr (6, [.ref 1, .ref 5, .ref 7, .ref 10, .ref 18, .ref 26, .ref 31, .ref 35, .ref 37, .int (nI rk)])), (5, .inr (3, [.ref 6, .int (nI n)])), (6, .inl (false, 60, f))] (some (.int (nI n))) [(0, .inr (6, [.ref 1, .ref 5, .ref 7, .ref 10, .ref 18, .ref 26, .ref 31, .ref 35, .ref 37, .int (nI rk)])), (5, .inr (3, [.ref 6, .int (nI 0)])), (6, .inl (false, 60, f))] := by
  intro hp
  refine E_aload_n dX6_wipe_0 rfl ?_
  refine E_get dX6_wipe_1 fX6_19 (by decide) rfl rfl ?_
  refine E_get dX6_wipe_4 fX6_111 (by decide) rfl rfl ?_
  refine E_istore_n (l2 := [.ref 0, .int (nI n)]) dX6_wipe_7 rfl (by decide) rfl ?_
  refine E_aload_n dX6_wipe_8 rfl ?_
  refine E_get dX6_wipe_9 fX6_19 (by decide) rfl rfl ?_
  refine E_iconst (v := 0) dX6_wipe_12 (by decide) ?_
  refine E_puti (fs2 := [.ref 6, .int 0]) (L2 := [(0, .inr (6, [.ref 1, .ref 5, .ref 7, .ref 10, .ref 18, .ref 26, .ref 31, .ref 35, .ref 37, .int (nI rk)])), (5, .inr (3, [.ref 6, .int 0])), (6, .inl (false, 60, f))]) dX6_wipe_13 fX6_111 fpX3_1 (by decide) rfl (Nat.le_of_ble_eq_true rfl) rfl rfl ?_
  refine E_iload_n dX6_wipe_16 rfl ?_
  exact E_iretf dX6_wipe_17 rfl rfl rfl rfl

set_option maxHeartbeats 4000000 in
set_option maxRecDepth 20000 in
theorem t_fault (d : Nat) (rk : Nat) (f : Nat → Int32) (n : Nat) (hn : n ≤ 60) : FC YX6_fault (d + 4) [.ref 0] [(0, .inr (6, [.ref 1, .ref 5, .ref 7, .ref 10, .ref 18, .ref 26, .ref 31, .ref 35, .ref 37, .int (nI rk)])), (5, .inr (3, [.ref 6, .int (nI n)])), (6, .inl (false, 60, f))] (some (.int (flt f n 0 false))) [(0, .inr (6, [.ref 1, .ref 5, .ref 7, .ref 10, .ref 18, .ref 26, .ref 31, .ref 35, .ref 37, .int (nI rk)])), (5, .inr (3, [.ref 6, .int (nI n)])), (6, .inl (false, 60, f))] := by
  intro hp
  refine E_aload_n dX6_fault_0 rfl ?_
  refine E_get dX6_fault_1 fX6_19 (by decide) rfl rfl ?_
  refine E_callV (As := []) (l' := [.ref 5, .null, .null, .null, .null]) (st := []) dX6_fault_4 kX6_114 iX3_faultPlace vX3_faultPlace (by decide) rfl rfl MX3_faultPlace rfl rfl (Nat.le_of_ble_eq_true rfl) (FC.use (c_faultPlace d f n hn) rfl (L2 := [(0, .inr (6, [.ref 1, .ref 5, .ref 7, .ref 10, .ref 18, .ref 26, .ref 31, .ref 35, .ref 37, .int (nI rk)])), (5, .inr (3, [.ref 6, .int (nI n)])), (6, .inl (false, 60, f))]) rfl) (Nat.le_of_ble_eq_true rfl) (fun _ _ hq9 => E_fgo ?_ hq9)
  show E _ _ 7 [.ref 0] [.int (flt f n 0 false)] (hov hp [(0, .inr (6, [.ref 1, .ref 5, .ref 7, .ref 10, .ref 18, .ref 26, .ref 31, .ref 35, .ref 37, .int (nI rk)])), (5, .inr (3, [.ref 6, .int (nI n)])), (6, .inl (false, 60, f))]) _
  exact E_iretf dX6_fault_7 rfl rfl rfl rfl

set_option maxHeartbeats 4000000 in
set_option maxRecDepth 20000 in
theorem t_judge_out (d : Nat) (rk : Nat) (v : Int32) (hv : inL (Int32.toInt64 v) 0 1 = false) : FC YX6_judge (d + 6) [.ref 0, .int v] [(0, .inr (6, [.ref 1, .ref 5, .ref 7, .ref 10, .ref 18, .ref 26, .ref 31, .ref 35, .ref 37, .int (nI rk)]))] (some (.int (-2))) [(0, .inr (6, [.ref 1, .ref 5, .ref 7, .ref 10, .ref 18, .ref 26, .ref 31, .ref 35, .ref 37, .int (nI rk)]))] := by
  intro hp
  refine E_iload_n dX6_judge_0 rfl ?_
  refine E_i2l dX6_judge_1 ?_
  refine E_lconst (v := 0) dX6_judge_2 (by decide) ?_
  refine E_lconst (v := 1) dX6_judge_3 (by decide) ?_
  refine E_callS (As := [.long (Int32.toInt64 v), .long 0, .long 1]) (l' := [.long (Int32.toInt64 v), .null, .long 0, .null, .long 1, .null]) (st := []) dX6_judge_4 kX6_73 sX6_isIn MX6_isIn rfl rfl (Nat.le_of_ble_eq_true rfl) (FC.use (c_isIn (d + 5) _ _ _) rfl (L2 := [(0, .inr (6, [.ref 1, .ref 5, .ref 7, .ref 10, .ref 18, .ref 26, .ref 31, .ref 35, .ref 37, .int (nI rk)]))]) rfl) (Nat.le_of_ble_eq_true rfl) (fun _ _ hq9 => E_fgo ?_ hq9)
  show E _ _ 7 [.ref 0, .int v] [.int (b2i (inL (Int32.toInt64 v) 0 1))] (hov hp [(0, .inr (6, [.ref 1, .ref 5, .ref 7, .ref 10, .ref 18, .ref 26, .ref 31, .ref 35, .ref 37, .int (nI rk)]))]) _
  refine E_if_ne (tgt := 13) dX6_judge_7 (by decide) (fun c => (b2i_x0 hv c).elim) (fun _ => ?_)
  refine E_bipush (v := (-2)) dX6_judge_10 (by decide) ?_
  exact E_iretf dX6_judge_12 rfl rfl rfl rfl

set_option maxHeartbeats 4000000 in
set_option maxRecDepth 20000 in
theorem t_judge_no (d : Nat) (rk : Nat) (f : Nat → Int32) (n : Nat) (hn : n ≤ 60) (v : Int32) (hv : inL (Int32.toInt64 v) 0 1 = true) (hf : ¬ flt f n 0 false = -6) : FC YX6_judge (d + 6) [.ref 0, .int v] [(0, .inr (6, [.ref 1, .ref 5, .ref 7, .ref 10, .ref 18, .ref 26, .ref 31, .ref 35, .ref 37, .int (nI rk)])), (5, .inr (3, [.ref 6, .int (nI n)])), (6, .inl (false, 60, f))] (some (.int (-5))) [(0, .inr (6, [.ref 1, .ref 5, .ref 7, .ref 10, .ref 18, .ref 26, .ref 31, .ref 35, .ref 37, .int (nI rk)])), (5, .inr (3, [.ref 6, .int (nI n)])), (6, .inl (false, 60, f))] := by
  intro hp
  refine E_iload_n dX6_judge_0 rfl ?_
  refine E_i2l dX6_judge_1 ?_
  refine E_lconst (v := 0) dX6_judge_2 (by decide) ?_
  refine E_lconst (v := 1) dX6_judge_3 (by decide) ?_
  refine E_callS (As := [.long (Int32.toInt64 v), .long 0, .long 1]) (l' := [.long (Int32.toInt64 v), .null, .long 0, .null, .long 1, .null]) (st := []) dX6_judge_4 kX6_73 sX6_isIn MX6_isIn rfl rfl (Nat.le_of_ble_eq_true rfl) (FC.use (c_isIn (d + 5) _ _ _) rfl (L2 := [(0, .inr (6, [.ref 1, .ref 5, .ref 7, .ref 10, .ref 18, .ref 26, .ref 31, .ref 35, .ref 37, .int (nI rk)])), (5, .inr (3, [.ref 6, .int (nI n)])), (6, .inl (false, 60, f))]) rfl) (Nat.le_of_ble_eq_true rfl) (fun _ _ hq9 => E_fgo ?_ hq9)
  show E _ _ 7 [.ref 0, .int v] [.int (b2i (inL (Int32.toInt64 v) 0 1))] (hov hp [(0, .inr (6, [.ref 1, .ref 5, .ref 7, .ref 10, .ref 18, .ref 26, .ref 31, .ref 35, .ref 37, .int (nI rk)])), (5, .inr (3, [.ref 6, .int (nI n)])), (6, .inl (false, 60, f))]) _
  refine E_if_ne (tgt := 13) dX6_judge_7 (by decide) (fun _ => ?_) (fun c => (b2i_x1 hv c).elim)
  refine E_aload_n dX6_judge_13 rfl ?_
  refine E_get dX6_judge_14 fX6_19 (by decide) rfl rfl ?_
  refine E_callV (As := []) (l' := [.ref 5, .null, .null, .null, .null]) (st := []) dX6_judge_17 kX6_114 iX3_faultPlace vX3_faultPlace (by decide) rfl rfl MX3_faultPlace rfl rfl (Nat.le_of_ble_eq_true rfl) (FC.use (c_faultPlace (d + 2) f n hn) rfl (L2 := [(0, .inr (6, [.ref 1, .ref 5, .ref 7, .ref 10, .ref 18, .ref 26, .ref 31, .ref 35, .ref 37, .int (nI rk)])), (5, .inr (3, [.ref 6, .int (nI n)])), (6, .inl (false, 60, f))]) rfl) (Nat.le_of_ble_eq_true rfl) (fun _ _ hq9 => E_fgo ?_ hq9)
  show E _ _ 20 [.ref 0, .int v] [.int (flt f n 0 false)] (hov hp [(0, .inr (6, [.ref 1, .ref 5, .ref 7, .ref 10, .ref 18, .ref 26, .ref 31, .ref 35, .ref 37, .int (nI rk)])), (5, .inr (3, [.ref 6, .int (nI n)])), (6, .inl (false, 60, f))]) _
  refine E_bipush (v := (-6)) dX6_judge_20 (by decide) ?_
  refine E_icmp_eq (tgt := 28) dX6_judge_22 (by decide) (fun c => absurd c hf) (fun _ => ?_)
  refine E_bipush (v := (-5)) dX6_judge_25 (by decide) ?_
  exact E_iretf dX6_judge_27 rfl rfl rfl rfl

set_option maxHeartbeats 4000000 in
set_option maxRecDepth 20000 in
theorem t_judge_0 (d : Nat) (rk : Nat) (f : Nat → Int32) (n : Nat) (hn : n ≤ 60) (t s : CS) (hA : Agr t s) (y0 y1 y2 y3 y4 y5 : Int32) (hf : flt f n 0 false = -6) : FC YX6_judge (d + 6) [.ref 0, .int 0] [(0, .inr (6, [.ref 1, .ref 5, .ref 7, .ref 10, .ref 18, .ref 26, .ref 31, .ref 35, .ref 37, .int (nI rk)])), (1, .inr (0, [.ref 2, .ref 3, .ref 4, .int (skn s), .int (sdr s), .int (swa s), .int (sbu s), .int (sni s)])), (2, .inl (false, 6, sce s)), (3, .inl (false, 6, she s)), (4, .inl (false, 6, stu s)), (5, .inr (3, [.ref 6, .int (nI n)])), (6, .inl (false, 60, f)), (26, .inr (5, [.ref 27, .int y0, .int y1, .int y2, .int y3, .int y4, .int y5])), (27, .inr (0, [.ref 28, .ref 29, .ref 30, .int (skn t), .int (sdr t), .int (swa t), .int (sbu t), .int (sni t)])), (28, .inl (false, 6, sce t)), (29, .inl (false, 6, she t)), (30, .inl (false, 6, stu t))] (some (.int (stA (wk f n 0 (wk0 s))))) [(0, .inr (6, [.ref 1, .ref 5, .ref 7, .ref 10, .ref 18, .ref 26, .ref 31, .ref 35, .ref 37, .int (nI rk)])), (1, .inr (0, [.ref 2, .ref 3, .ref 4, .int (skn s), .int (sdr s), .int (swa s), .int (sbu s), .int (sni s)])), (2, .inl (false, 6, sce s)), (3, .inl (false, 6, she s)), (4, .inl (false, 6, stu s)), (5, .inr (3, [.ref 6, .int (nI n)])), (6, .inl (false, 60, f)), (26, .inr (5, [.ref 27, .int (nI (wA ((wk f n 0 (wk0 s)).1))), .int (stA (wk f n 0 (wk0 s))), .int (stW (wk f n 0 (wk0 s))), .int (wF ((wk f n 0 (wk0 s)).1)), .int (wG ((wk f n 0 (wk0 s)).1)), .int (wH ((wk f n 0 (wk0 s)).1))])), (27, .inr (0, [.ref 28, .ref 29, .ref 30, .int (skn (wS ((wk f n 0 (wk0 s)).1))), .int (sdr (wS ((wk f n 0 (wk0 s)).1))), .int (swa (wS ((wk f n 0 (wk0 s)).1))), .int (sbu (wS ((wk f n 0 (wk0 s)).1))), .int (sni (wS ((wk f n 0 (wk0 s)).1)))])), (28, .inl (false, 6, sce (wS ((wk f n 0 (wk0 s)).1)))), (29, .inl (false, 6, she (wS ((wk f n 0 (wk0 s)).1)))), (30, .inl (false, 6, stu (wS ((wk f n 0 (wk0 s)).1))))] := by
  intro hp
  refine E_iload_n dX6_judge_0 rfl ?_
  refine E_i2l dX6_judge_1 ?_
  refine E_lconst (v := 0) dX6_judge_2 (by decide) ?_
  refine E_lconst (v := 1) dX6_judge_3 (by decide) ?_
  refine E_callS (As := [.long (Int32.toInt64 0), .long 0, .long 1]) (l' := [.long (Int32.toInt64 0), .null, .long 0, .null, .long 1, .null]) (st := []) dX6_judge_4 kX6_73 sX6_isIn MX6_isIn rfl rfl (Nat.le_of_ble_eq_true rfl) (FC.use (c_isIn (d + 5) _ _ _) rfl (L2 := [(0, .inr (6, [.ref 1, .ref 5, .ref 7, .ref 10, .ref 18, .ref 26, .ref 31, .ref 35, .ref 37, .int (nI rk)])), (1, .inr (0, [.ref 2, .ref 3, .ref 4, .int (skn s), .int (sdr s), .int (swa s), .int (sbu s), .int (sni s)])), (2, .inl (false, 6, sce s)), (3, .inl (false, 6, she s)), (4, .inl (false, 6, stu s)), (5, .inr (3, [.ref 6, .int (nI n)])), (6, .inl (false, 60, f)), (26, .inr (5, [.ref 27, .int y0, .int y1, .int y2, .int y3, .int y4, .int y5])), (27, .inr (0, [.ref 28, .ref 29, .ref 30, .int (skn t), .int (sdr t), .int (swa t), .int (sbu t), .int (sni t)])), (28, .inl (false, 6, sce t)), (29, .inl (false, 6, she t)), (30, .inl (false, 6, stu t))]) rfl) (Nat.le_of_ble_eq_true rfl) (fun _ _ hq9 => E_fgo ?_ hq9)
  show E _ _ 7 [.ref 0, .int 0] [.int (b2i (inL (Int32.toInt64 0) 0 1))] (hov hp [(0, .inr (6, [.ref 1, .ref 5, .ref 7, .ref 10, .ref 18, .ref 26, .ref 31, .ref 35, .ref 37, .int (nI rk)])), (1, .inr (0, [.ref 2, .ref 3, .ref 4, .int (skn s), .int (sdr s), .int (swa s), .int (sbu s), .int (sni s)])), (2, .inl (false, 6, sce s)), (3, .inl (false, 6, she s)), (4, .inl (false, 6, stu s)), (5, .inr (3, [.ref 6, .int (nI n)])), (6, .inl (false, 60, f)), (26, .inr (5, [.ref 27, .int y0, .int y1, .int y2, .int y3, .int y4, .int y5])), (27, .inr (0, [.ref 28, .ref 29, .ref 30, .int (skn t), .int (sdr t), .int (swa t), .int (sbu t), .int (sni t)])), (28, .inl (false, 6, sce t)), (29, .inl (false, 6, she t)), (30, .inl (false, 6, stu t))]) _
  refine E_if_ne (tgt := 13) dX6_judge_7 (by decide) (fun _ => ?_) (fun c => (b2i_x1 (by decide) c).elim)
  refine E_aload_n dX6_judge_13 rfl ?_
  refine E_get dX6_judge_14 fX6_19 (by decide) rfl rfl ?_
  refine E_callV (As := []) (l' := [.ref 5, .null, .null, .null, .null]) (st := []) dX6_judge_17 kX6_114 iX3_faultPlace vX3_faultPlace (by decide) rfl rfl MX3_faultPlace rfl rfl (Nat.le_of_ble_eq_true rfl) (FC.use (c_faultPlace (d + 2) f n hn) rfl (L2 := [(0, .inr (6, [.ref 1, .ref 5, .ref 7, .ref 10, .ref 18, .ref 26, .ref 31, .ref 35, .ref 37, .int (nI rk)])), (1, .inr (0, [.ref 2, .ref 3, .ref 4, .int (skn s), .int (sdr s), .int (swa s), .int (sbu s), .int (sni s)])), (2, .inl (false, 6, sce s)), (3, .inl (false, 6, she s)), (4, .inl (false, 6, stu s)), (5, .inr (3, [.ref 6, .int (nI n)])), (6, .inl (false, 60, f)), (26, .inr (5, [.ref 27, .int y0, .int y1, .int y2, .int y3, .int y4, .int y5])), (27, .inr (0, [.ref 28, .ref 29, .ref 30, .int (skn t), .int (sdr t), .int (swa t), .int (sbu t), .int (sni t)])), (28, .inl (false, 6, sce t)), (29, .inl (false, 6, she t)), (30, .inl (false, 6, stu t))]) rfl) (Nat.le_of_ble_eq_true rfl) (fun _ _ hq9 => E_fgo ?_ hq9)
  show E _ _ 20 [.ref 0, .int 0] [.int (flt f n 0 false)] (hov hp [(0, .inr (6, [.ref 1, .ref 5, .ref 7, .ref 10, .ref 18, .ref 26, .ref 31, .ref 35, .ref 37, .int (nI rk)])), (1, .inr (0, [.ref 2, .ref 3, .ref 4, .int (skn s), .int (sdr s), .int (swa s), .int (sbu s), .int (sni s)])), (2, .inl (false, 6, sce s)), (3, .inl (false, 6, she s)), (4, .inl (false, 6, stu s)), (5, .inr (3, [.ref 6, .int (nI n)])), (6, .inl (false, 60, f)), (26, .inr (5, [.ref 27, .int y0, .int y1, .int y2, .int y3, .int y4, .int y5])), (27, .inr (0, [.ref 28, .ref 29, .ref 30, .int (skn t), .int (sdr t), .int (swa t), .int (sbu t), .int (sni t)])), (28, .inl (false, 6, sce t)), (29, .inl (false, 6, she t)), (30, .inl (false, 6, stu t))]) _
  refine E_bipush (v := (-6)) dX6_judge_20 (by decide) ?_
  refine E_icmp_eq (tgt := 28) dX6_judge_22 (by decide) (fun _ => ?_) (fun c => absurd hf c)
  refine E_aload_n dX6_judge_28 rfl ?_
  refine E_get dX6_judge_29 fX6_43 (by decide) rfl rfl ?_
  refine E_aload_n dX6_judge_32 rfl ?_
  refine E_get dX6_judge_33 fX6_19 (by decide) rfl rfl ?_
  refine E_aload_n dX6_judge_36 rfl ?_
  refine E_get dX6_judge_37 fX6_12 (by decide) rfl rfl ?_
  refine E_callV (As := [.ref 5, .ref 1]) (l' := [.ref 26, .ref 5, .ref 1, .null, .null, .null, .null, .null, .null]) (st := []) dX6_judge_40 kX6_118 iX5_tryOut vX5_tryOut (by decide) rfl rfl MX5_tryOut rfl rfl (Nat.le_of_ble_eq_true rfl) (FC.use (c_tryOut_ok d f n hn t s hA y0 y1 y2 y3 y4 y5 hf) rfl (L2 := [(0, .inr (6, [.ref 1, .ref 5, .ref 7, .ref 10, .ref 18, .ref 26, .ref 31, .ref 35, .ref 37, .int (nI rk)])), (1, .inr (0, [.ref 2, .ref 3, .ref 4, .int (skn s), .int (sdr s), .int (swa s), .int (sbu s), .int (sni s)])), (2, .inl (false, 6, sce s)), (3, .inl (false, 6, she s)), (4, .inl (false, 6, stu s)), (5, .inr (3, [.ref 6, .int (nI n)])), (6, .inl (false, 60, f)), (26, .inr (5, [.ref 27, .int (nI (wA ((wk f n 0 (wk0 s)).1))), .int (stA (wk f n 0 (wk0 s))), .int (stW (wk f n 0 (wk0 s))), .int (wF ((wk f n 0 (wk0 s)).1)), .int (wG ((wk f n 0 (wk0 s)).1)), .int (wH ((wk f n 0 (wk0 s)).1))])), (27, .inr (0, [.ref 28, .ref 29, .ref 30, .int (skn (wS ((wk f n 0 (wk0 s)).1))), .int (sdr (wS ((wk f n 0 (wk0 s)).1))), .int (swa (wS ((wk f n 0 (wk0 s)).1))), .int (sbu (wS ((wk f n 0 (wk0 s)).1))), .int (sni (wS ((wk f n 0 (wk0 s)).1)))])), (28, .inl (false, 6, sce (wS ((wk f n 0 (wk0 s)).1)))), (29, .inl (false, 6, she (wS ((wk f n 0 (wk0 s)).1)))), (30, .inl (false, 6, stu (wS ((wk f n 0 (wk0 s)).1))))]) rfl) (Nat.le_of_ble_eq_true rfl) (fun _ _ hq9 => E_fgo ?_ hq9)
  show E _ _ 43 [.ref 0, .int 0] [.int (b2i (decide ((wk f n 0 (wk0 s)).2 = 0)))] (hov hp [(0, .inr (6, [.ref 1, .ref 5, .ref 7, .ref 10, .ref 18, .ref 26, .ref 31, .ref 35, .ref 37, .int (nI rk)])), (1, .inr (0, [.ref 2, .ref 3, .ref 4, .int (skn s), .int (sdr s), .int (swa s), .int (sbu s), .int (sni s)])), (2, .inl (false, 6, sce s)), (3, .inl (false, 6, she s)), (4, .inl (false, 6, stu s)), (5, .inr (3, [.ref 6, .int (nI n)])), (6, .inl (false, 60, f)), (26, .inr (5, [.ref 27, .int (nI (wA ((wk f n 0 (wk0 s)).1))), .int (stA (wk f n 0 (wk0 s))), .int (stW (wk f n 0 (wk0 s))), .int (wF ((wk f n 0 (wk0 s)).1)), .int (wG ((wk f n 0 (wk0 s)).1)), .int (wH ((wk f n 0 (wk0 s)).1))])), (27, .inr (0, [.ref 28, .ref 29, .ref 30, .int (skn (wS ((wk f n 0 (wk0 s)).1))), .int (sdr (wS ((wk f n 0 (wk0 s)).1))), .int (swa (wS ((wk f n 0 (wk0 s)).1))), .int (sbu (wS ((wk f n 0 (wk0 s)).1))), .int (sni (wS ((wk f n 0 (wk0 s)).1)))])), (28, .inl (false, 6, sce (wS ((wk f n 0 (wk0 s)).1)))), (29, .inl (false, 6, she (wS ((wk f n 0 (wk0 s)).1)))), (30, .inl (false, 6, stu (wS ((wk f n 0 (wk0 s)).1))))]) _
  refine E_pop dX6_judge_43 rfl ?_
  refine E_iload_n dX6_judge_44 rfl ?_
  refine E_if_ne (tgt := 58) dX6_judge_45 (by decide) (fun c => by first | exact absurd c (by decide) | exact absurd (by decide) c) (fun _ => ?_)
  refine E_aload_n dX6_judge_48 rfl ?_
  refine E_get dX6_judge_49 fX6_43 (by decide) rfl rfl ?_
  refine E_get dX6_judge_52 fX6_122 (by decide) rfl rfl ?_
  refine E_goto (tgt := 65) dX6_judge_55 (by decide) ?_
  exact E_iretf dX6_judge_65 rfl rfl rfl rfl

set_option maxHeartbeats 4000000 in
set_option maxRecDepth 20000 in
theorem t_judge_1 (d : Nat) (rk : Nat) (f : Nat → Int32) (n : Nat) (hn : n ≤ 60) (t s : CS) (hA : Agr t s) (y0 y1 y2 y3 y4 y5 : Int32) (hf : flt f n 0 false = -6) : FC YX6_judge (d + 6) [.ref 0, .int 1] [(0, .inr (6, [.ref 1, .ref 5, .ref 7, .ref 10, .ref 18, .ref 26, .ref 31, .ref 35, .ref 37, .int (nI rk)])), (1, .inr (0, [.ref 2, .ref 3, .ref 4, .int (skn s), .int (sdr s), .int (swa s), .int (sbu s), .int (sni s)])), (2, .inl (false, 6, sce s)), (3, .inl (false, 6, she s)), (4, .inl (false, 6, stu s)), (5, .inr (3, [.ref 6, .int (nI n)])), (6, .inl (false, 60, f)), (26, .inr (5, [.ref 27, .int y0, .int y1, .int y2, .int y3, .int y4, .int y5])), (27, .inr (0, [.ref 28, .ref 29, .ref 30, .int (skn t), .int (sdr t), .int (swa t), .int (sbu t), .int (sni t)])), (28, .inl (false, 6, sce t)), (29, .inl (false, 6, she t)), (30, .inl (false, 6, stu t))] (some (.int (stW (wk f n 0 (wk0 s))))) [(0, .inr (6, [.ref 1, .ref 5, .ref 7, .ref 10, .ref 18, .ref 26, .ref 31, .ref 35, .ref 37, .int (nI rk)])), (1, .inr (0, [.ref 2, .ref 3, .ref 4, .int (skn s), .int (sdr s), .int (swa s), .int (sbu s), .int (sni s)])), (2, .inl (false, 6, sce s)), (3, .inl (false, 6, she s)), (4, .inl (false, 6, stu s)), (5, .inr (3, [.ref 6, .int (nI n)])), (6, .inl (false, 60, f)), (26, .inr (5, [.ref 27, .int (nI (wA ((wk f n 0 (wk0 s)).1))), .int (stA (wk f n 0 (wk0 s))), .int (stW (wk f n 0 (wk0 s))), .int (wF ((wk f n 0 (wk0 s)).1)), .int (wG ((wk f n 0 (wk0 s)).1)), .int (wH ((wk f n 0 (wk0 s)).1))])), (27, .inr (0, [.ref 28, .ref 29, .ref 30, .int (skn (wS ((wk f n 0 (wk0 s)).1))), .int (sdr (wS ((wk f n 0 (wk0 s)).1))), .int (swa (wS ((wk f n 0 (wk0 s)).1))), .int (sbu (wS ((wk f n 0 (wk0 s)).1))), .int (sni (wS ((wk f n 0 (wk0 s)).1)))])), (28, .inl (false, 6, sce (wS ((wk f n 0 (wk0 s)).1)))), (29, .inl (false, 6, she (wS ((wk f n 0 (wk0 s)).1)))), (30, .inl (false, 6, stu (wS ((wk f n 0 (wk0 s)).1))))] := by
  intro hp
  refine E_iload_n dX6_judge_0 rfl ?_
  refine E_i2l dX6_judge_1 ?_
  refine E_lconst (v := 0) dX6_judge_2 (by decide) ?_
  refine E_lconst (v := 1) dX6_judge_3 (by decide) ?_
  refine E_callS (As := [.long (Int32.toInt64 1), .long 0, .long 1]) (l' := [.long (Int32.toInt64 1), .null, .long 0, .null, .long 1, .null]) (st := []) dX6_judge_4 kX6_73 sX6_isIn MX6_isIn rfl rfl (Nat.le_of_ble_eq_true rfl) (FC.use (c_isIn (d + 5) _ _ _) rfl (L2 := [(0, .inr (6, [.ref 1, .ref 5, .ref 7, .ref 10, .ref 18, .ref 26, .ref 31, .ref 35, .ref 37, .int (nI rk)])), (1, .inr (0, [.ref 2, .ref 3, .ref 4, .int (skn s), .int (sdr s), .int (swa s), .int (sbu s), .int (sni s)])), (2, .inl (false, 6, sce s)), (3, .inl (false, 6, she s)), (4, .inl (false, 6, stu s)), (5, .inr (3, [.ref 6, .int (nI n)])), (6, .inl (false, 60, f)), (26, .inr (5, [.ref 27, .int y0, .int y1, .int y2, .int y3, .int y4, .int y5])), (27, .inr (0, [.ref 28, .ref 29, .ref 30, .int (skn t), .int (sdr t), .int (swa t), .int (sbu t), .int (sni t)])), (28, .inl (false, 6, sce t)), (29, .inl (false, 6, she t)), (30, .inl (false, 6, stu t))]) rfl) (Nat.le_of_ble_eq_true rfl) (fun _ _ hq9 => E_fgo ?_ hq9)
  show E _ _ 7 [.ref 0, .int 1] [.int (b2i (inL (Int32.toInt64 1) 0 1))] (hov hp [(0, .inr (6, [.ref 1, .ref 5, .ref 7, .ref 10, .ref 18, .ref 26, .ref 31, .ref 35, .ref 37, .int (nI rk)])), (1, .inr (0, [.ref 2, .ref 3, .ref 4, .int (skn s), .int (sdr s), .int (swa s), .int (sbu s), .int (sni s)])), (2, .inl (false, 6, sce s)), (3, .inl (false, 6, she s)), (4, .inl (false, 6, stu s)), (5, .inr (3, [.ref 6, .int (nI n)])), (6, .inl (false, 60, f)), (26, .inr (5, [.ref 27, .int y0, .int y1, .int y2, .int y3, .int y4, .int y5])), (27, .inr (0, [.ref 28, .ref 29, .ref 30, .int (skn t), .int (sdr t), .int (swa t), .int (sbu t), .int (sni t)])), (28, .inl (false, 6, sce t)), (29, .inl (false, 6, she t)), (30, .inl (false, 6, stu t))]) _
  refine E_if_ne (tgt := 13) dX6_judge_7 (by decide) (fun _ => ?_) (fun c => (b2i_x1 (by decide) c).elim)
  refine E_aload_n dX6_judge_13 rfl ?_
  refine E_get dX6_judge_14 fX6_19 (by decide) rfl rfl ?_
  refine E_callV (As := []) (l' := [.ref 5, .null, .null, .null, .null]) (st := []) dX6_judge_17 kX6_114 iX3_faultPlace vX3_faultPlace (by decide) rfl rfl MX3_faultPlace rfl rfl (Nat.le_of_ble_eq_true rfl) (FC.use (c_faultPlace (d + 2) f n hn) rfl (L2 := [(0, .inr (6, [.ref 1, .ref 5, .ref 7, .ref 10, .ref 18, .ref 26, .ref 31, .ref 35, .ref 37, .int (nI rk)])), (1, .inr (0, [.ref 2, .ref 3, .ref 4, .int (skn s), .int (sdr s), .int (swa s), .int (sbu s), .int (sni s)])), (2, .inl (false, 6, sce s)), (3, .inl (false, 6, she s)), (4, .inl (false, 6, stu s)), (5, .inr (3, [.ref 6, .int (nI n)])), (6, .inl (false, 60, f)), (26, .inr (5, [.ref 27, .int y0, .int y1, .int y2, .int y3, .int y4, .int y5])), (27, .inr (0, [.ref 28, .ref 29, .ref 30, .int (skn t), .int (sdr t), .int (swa t), .int (sbu t), .int (sni t)])), (28, .inl (false, 6, sce t)), (29, .inl (false, 6, she t)), (30, .inl (false, 6, stu t))]) rfl) (Nat.le_of_ble_eq_true rfl) (fun _ _ hq9 => E_fgo ?_ hq9)
  show E _ _ 20 [.ref 0, .int 1] [.int (flt f n 0 false)] (hov hp [(0, .inr (6, [.ref 1, .ref 5, .ref 7, .ref 10, .ref 18, .ref 26, .ref 31, .ref 35, .ref 37, .int (nI rk)])), (1, .inr (0, [.ref 2, .ref 3, .ref 4, .int (skn s), .int (sdr s), .int (swa s), .int (sbu s), .int (sni s)])), (2, .inl (false, 6, sce s)), (3, .inl (false, 6, she s)), (4, .inl (false, 6, stu s)), (5, .inr (3, [.ref 6, .int (nI n)])), (6, .inl (false, 60, f)), (26, .inr (5, [.ref 27, .int y0, .int y1, .int y2, .int y3, .int y4, .int y5])), (27, .inr (0, [.ref 28, .ref 29, .ref 30, .int (skn t), .int (sdr t), .int (swa t), .int (sbu t), .int (sni t)])), (28, .inl (false, 6, sce t)), (29, .inl (false, 6, she t)), (30, .inl (false, 6, stu t))]) _
  refine E_bipush (v := (-6)) dX6_judge_20 (by decide) ?_
  refine E_icmp_eq (tgt := 28) dX6_judge_22 (by decide) (fun _ => ?_) (fun c => absurd hf c)
  refine E_aload_n dX6_judge_28 rfl ?_
  refine E_get dX6_judge_29 fX6_43 (by decide) rfl rfl ?_
  refine E_aload_n dX6_judge_32 rfl ?_
  refine E_get dX6_judge_33 fX6_19 (by decide) rfl rfl ?_
  refine E_aload_n dX6_judge_36 rfl ?_
  refine E_get dX6_judge_37 fX6_12 (by decide) rfl rfl ?_
  refine E_callV (As := [.ref 5, .ref 1]) (l' := [.ref 26, .ref 5, .ref 1, .null, .null, .null, .null, .null, .null]) (st := []) dX6_judge_40 kX6_118 iX5_tryOut vX5_tryOut (by decide) rfl rfl MX5_tryOut rfl rfl (Nat.le_of_ble_eq_true rfl) (FC.use (c_tryOut_ok d f n hn t s hA y0 y1 y2 y3 y4 y5 hf) rfl (L2 := [(0, .inr (6, [.ref 1, .ref 5, .ref 7, .ref 10, .ref 18, .ref 26, .ref 31, .ref 35, .ref 37, .int (nI rk)])), (1, .inr (0, [.ref 2, .ref 3, .ref 4, .int (skn s), .int (sdr s), .int (swa s), .int (sbu s), .int (sni s)])), (2, .inl (false, 6, sce s)), (3, .inl (false, 6, she s)), (4, .inl (false, 6, stu s)), (5, .inr (3, [.ref 6, .int (nI n)])), (6, .inl (false, 60, f)), (26, .inr (5, [.ref 27, .int (nI (wA ((wk f n 0 (wk0 s)).1))), .int (stA (wk f n 0 (wk0 s))), .int (stW (wk f n 0 (wk0 s))), .int (wF ((wk f n 0 (wk0 s)).1)), .int (wG ((wk f n 0 (wk0 s)).1)), .int (wH ((wk f n 0 (wk0 s)).1))])), (27, .inr (0, [.ref 28, .ref 29, .ref 30, .int (skn (wS ((wk f n 0 (wk0 s)).1))), .int (sdr (wS ((wk f n 0 (wk0 s)).1))), .int (swa (wS ((wk f n 0 (wk0 s)).1))), .int (sbu (wS ((wk f n 0 (wk0 s)).1))), .int (sni (wS ((wk f n 0 (wk0 s)).1)))])), (28, .inl (false, 6, sce (wS ((wk f n 0 (wk0 s)).1)))), (29, .inl (false, 6, she (wS ((wk f n 0 (wk0 s)).1)))), (30, .inl (false, 6, stu (wS ((wk f n 0 (wk0 s)).1))))]) rfl) (Nat.le_of_ble_eq_true rfl) (fun _ _ hq9 => E_fgo ?_ hq9)
  show E _ _ 43 [.ref 0, .int 1] [.int (b2i (decide ((wk f n 0 (wk0 s)).2 = 0)))] (hov hp [(0, .inr (6, [.ref 1, .ref 5, .ref 7, .ref 10, .ref 18, .ref 26, .ref 31, .ref 35, .ref 37, .int (nI rk)])), (1, .inr (0, [.ref 2, .ref 3, .ref 4, .int (skn s), .int (sdr s), .int (swa s), .int (sbu s), .int (sni s)])), (2, .inl (false, 6, sce s)), (3, .inl (false, 6, she s)), (4, .inl (false, 6, stu s)), (5, .inr (3, [.ref 6, .int (nI n)])), (6, .inl (false, 60, f)), (26, .inr (5, [.ref 27, .int (nI (wA ((wk f n 0 (wk0 s)).1))), .int (stA (wk f n 0 (wk0 s))), .int (stW (wk f n 0 (wk0 s))), .int (wF ((wk f n 0 (wk0 s)).1)), .int (wG ((wk f n 0 (wk0 s)).1)), .int (wH ((wk f n 0 (wk0 s)).1))])), (27, .inr (0, [.ref 28, .ref 29, .ref 30, .int (skn (wS ((wk f n 0 (wk0 s)).1))), .int (sdr (wS ((wk f n 0 (wk0 s)).1))), .int (swa (wS ((wk f n 0 (wk0 s)).1))), .int (sbu (wS ((wk f n 0 (wk0 s)).1))), .int (sni (wS ((wk f n 0 (wk0 s)).1)))])), (28, .inl (false, 6, sce (wS ((wk f n 0 (wk0 s)).1)))), (29, .inl (false, 6, she (wS ((wk f n 0 (wk0 s)).1)))), (30, .inl (false, 6, stu (wS ((wk f n 0 (wk0 s)).1))))]) _
  refine E_pop dX6_judge_43 rfl ?_
  refine E_iload_n dX6_judge_44 rfl ?_
  refine E_if_ne (tgt := 58) dX6_judge_45 (by decide) (fun _ => ?_) (fun c => by first | exact absurd c (by decide) | exact absurd (by decide) c)
  refine E_aload_n dX6_judge_58 rfl ?_
  refine E_get dX6_judge_59 fX6_43 (by decide) rfl rfl ?_
  refine E_get dX6_judge_62 fX6_125 (by decide) rfl rfl ?_
  exact E_iretf dX6_judge_65 rfl rfl rfl rfl

set_option maxHeartbeats 4000000 in
set_option maxRecDepth 20000 in
theorem t_done_f (d : Nat) (rk : Nat) (f : Nat → Int32) (n : Nat) (hn : n ≤ 60) (t s : CS) (hA : Agr t s) (y0 y1 y2 y3 y4 y5 : Int32) (hf : ¬ flt f n 0 false = -6) : FC YX6_done (d + 6) [.ref 0] [(0, .inr (6, [.ref 1, .ref 5, .ref 7, .ref 10, .ref 18, .ref 26, .ref 31, .ref 35, .ref 37, .int (nI rk)])), (1, .inr (0, [.ref 2, .ref 3, .ref 4, .int (skn s), .int (sdr s), .int (swa s), .int (sbu s), .int (sni s)])), (2, .inl (false, 6, sce s)), (3, .inl (false, 6, she s)), (4, .inl (false, 6, stu s)), (5, .inr (3, [.ref 6, .int (nI n)])), (6, .inl (false, 60, f)), (26, .inr (5, [.ref 27, .int y0, .int y1, .int y2, .int y3, .int y4, .int y5])), (27, .inr (0, [.ref 28, .ref 29, .ref 30, .int (skn t), .int (sdr t), .int (swa t), .int (sbu t), .int (sni t)])), (28, .inl (false, 6, sce t)), (29, .inl (false, 6, she t)), (30, .inl (false, 6, stu t))] (some (.int (-5))) [(0, .inr (6, [.ref 1, .ref 5, .ref 7, .ref 10, .ref 18, .ref 26, .ref 31, .ref 35, .ref 37, .int (nI rk)])), (1, .inr (0, [.ref 2, .ref 3, .ref 4, .int (skn s), .int (sdr s), .int (swa s), .int (sbu s), .int (sni s)])), (2, .inl (false, 6, sce s)), (3, .inl (false, 6, she s)), (4, .inl (false, 6, stu s)), (5, .inr (3, [.ref 6, .int (nI n)])), (6, .inl (false, 60, f)), (26, .inr (5, [.ref 27, .int 0, .int (-6), .int (-6), .int 0, .int (-6), .int (-6)])), (27, .inr (0, [.ref 28, .ref 29, .ref 30, .int (skn s), .int (sdr s), .int (swa s), .int (sbu s), .int (sni s)])), (28, .inl (false, 6, sce s)), (29, .inl (false, 6, she s)), (30, .inl (false, 6, stu s))] := by
  intro hp
  refine E_aload_n dX6_done_0 rfl ?_
  refine E_get dX6_done_1 fX6_43 (by decide) rfl rfl ?_
  refine E_aload_n dX6_done_4 rfl ?_
  refine E_get dX6_done_5 fX6_19 (by decide) rfl rfl ?_
  refine E_aload_n dX6_done_8 rfl ?_
  refine E_get dX6_done_9 fX6_12 (by decide) rfl rfl ?_
  refine E_callV (As := [.ref 5, .ref 1]) (l' := [.ref 26, .ref 5, .ref 1, .null, .null, .null, .null, .null, .null]) (st := []) dX6_done_12 kX6_118 iX5_tryOut vX5_tryOut (by decide) rfl rfl MX5_tryOut rfl rfl (Nat.le_of_ble_eq_true rfl) (FC.use (c_tryOut_fault d f n hn t s hA y0 y1 y2 y3 y4 y5 hf) rfl (L2 := [(0, .inr (6, [.ref 1, .ref 5, .ref 7, .ref 10, .ref 18, .ref 26, .ref 31, .ref 35, .ref 37, .int (nI rk)])), (1, .inr (0, [.ref 2, .ref 3, .ref 4, .int (skn s), .int (sdr s), .int (swa s), .int (sbu s), .int (sni s)])), (2, .inl (false, 6, sce s)), (3, .inl (false, 6, she s)), (4, .inl (false, 6, stu s)), (5, .inr (3, [.ref 6, .int (nI n)])), (6, .inl (false, 60, f)), (26, .inr (5, [.ref 27, .int 0, .int (-6), .int (-6), .int 0, .int (-6), .int (-6)])), (27, .inr (0, [.ref 28, .ref 29, .ref 30, .int (skn s), .int (sdr s), .int (swa s), .int (sbu s), .int (sni s)])), (28, .inl (false, 6, sce s)), (29, .inl (false, 6, she s)), (30, .inl (false, 6, stu s))]) rfl) (Nat.le_of_ble_eq_true rfl) (fun _ _ hq9 => E_fgo ?_ hq9)
  show E _ _ 15 [.ref 0] [.int (b2i false)] (hov hp [(0, .inr (6, [.ref 1, .ref 5, .ref 7, .ref 10, .ref 18, .ref 26, .ref 31, .ref 35, .ref 37, .int (nI rk)])), (1, .inr (0, [.ref 2, .ref 3, .ref 4, .int (skn s), .int (sdr s), .int (swa s), .int (sbu s), .int (sni s)])), (2, .inl (false, 6, sce s)), (3, .inl (false, 6, she s)), (4, .inl (false, 6, stu s)), (5, .inr (3, [.ref 6, .int (nI n)])), (6, .inl (false, 60, f)), (26, .inr (5, [.ref 27, .int 0, .int (-6), .int (-6), .int 0, .int (-6), .int (-6)])), (27, .inr (0, [.ref 28, .ref 29, .ref 30, .int (skn s), .int (sdr s), .int (swa s), .int (sbu s), .int (sni s)])), (28, .inl (false, 6, sce s)), (29, .inl (false, 6, she s)), (30, .inl (false, 6, stu s))]) _
  refine E_if_ne (tgt := 21) dX6_done_15 (by decide) (fun c => (b2i_x0 rfl c).elim) (fun _ => ?_)
  refine E_bipush (v := (-5)) dX6_done_18 (by decide) ?_
  exact E_iretf dX6_done_20 rfl rfl rfl rfl

set_option maxHeartbeats 4000000 in
set_option maxRecDepth 20000 in
theorem t_done_n (d : Nat) (rk : Nat) (f : Nat → Int32) (n : Nat) (hn : n ≤ 60) (t s : CS) (hA : Agr t s) (y0 y1 y2 y3 y4 y5 : Int32) (hf : flt f n 0 false = -6) (hr : decide ((wk f n 0 (wk0 s)).2 = 0) = false) : FC YX6_done (d + 6) [.ref 0] [(0, .inr (6, [.ref 1, .ref 5, .ref 7, .ref 10, .ref 18, .ref 26, .ref 31, .ref 35, .ref 37, .int (nI rk)])), (1, .inr (0, [.ref 2, .ref 3, .ref 4, .int (skn s), .int (sdr s), .int (swa s), .int (sbu s), .int (sni s)])), (2, .inl (false, 6, sce s)), (3, .inl (false, 6, she s)), (4, .inl (false, 6, stu s)), (5, .inr (3, [.ref 6, .int (nI n)])), (6, .inl (false, 60, f)), (26, .inr (5, [.ref 27, .int y0, .int y1, .int y2, .int y3, .int y4, .int y5])), (27, .inr (0, [.ref 28, .ref 29, .ref 30, .int (skn t), .int (sdr t), .int (swa t), .int (sbu t), .int (sni t)])), (28, .inl (false, 6, sce t)), (29, .inl (false, 6, she t)), (30, .inl (false, 6, stu t))] (some (.int (-5))) [(0, .inr (6, [.ref 1, .ref 5, .ref 7, .ref 10, .ref 18, .ref 26, .ref 31, .ref 35, .ref 37, .int (nI rk)])), (1, .inr (0, [.ref 2, .ref 3, .ref 4, .int (skn s), .int (sdr s), .int (swa s), .int (sbu s), .int (sni s)])), (2, .inl (false, 6, sce s)), (3, .inl (false, 6, she s)), (4, .inl (false, 6, stu s)), (5, .inr (3, [.ref 6, .int (nI n)])), (6, .inl (false, 60, f)), (26, .inr (5, [.ref 27, .int (nI (wA ((wk f n 0 (wk0 s)).1))), .int (stA (wk f n 0 (wk0 s))), .int (stW (wk f n 0 (wk0 s))), .int (wF ((wk f n 0 (wk0 s)).1)), .int (wG ((wk f n 0 (wk0 s)).1)), .int (wH ((wk f n 0 (wk0 s)).1))])), (27, .inr (0, [.ref 28, .ref 29, .ref 30, .int (skn (wS ((wk f n 0 (wk0 s)).1))), .int (sdr (wS ((wk f n 0 (wk0 s)).1))), .int (swa (wS ((wk f n 0 (wk0 s)).1))), .int (sbu (wS ((wk f n 0 (wk0 s)).1))), .int (sni (wS ((wk f n 0 (wk0 s)).1)))])), (28, .inl (false, 6, sce (wS ((wk f n 0 (wk0 s)).1)))), (29, .inl (false, 6, she (wS ((wk f n 0 (wk0 s)).1)))), (30, .inl (false, 6, stu (wS ((wk f n 0 (wk0 s)).1))))] := by
  intro hp
  refine E_aload_n dX6_done_0 rfl ?_
  refine E_get dX6_done_1 fX6_43 (by decide) rfl rfl ?_
  refine E_aload_n dX6_done_4 rfl ?_
  refine E_get dX6_done_5 fX6_19 (by decide) rfl rfl ?_
  refine E_aload_n dX6_done_8 rfl ?_
  refine E_get dX6_done_9 fX6_12 (by decide) rfl rfl ?_
  refine E_callV (As := [.ref 5, .ref 1]) (l' := [.ref 26, .ref 5, .ref 1, .null, .null, .null, .null, .null, .null]) (st := []) dX6_done_12 kX6_118 iX5_tryOut vX5_tryOut (by decide) rfl rfl MX5_tryOut rfl rfl (Nat.le_of_ble_eq_true rfl) (FC.use (c_tryOut_ok d f n hn t s hA y0 y1 y2 y3 y4 y5 hf) rfl (L2 := [(0, .inr (6, [.ref 1, .ref 5, .ref 7, .ref 10, .ref 18, .ref 26, .ref 31, .ref 35, .ref 37, .int (nI rk)])), (1, .inr (0, [.ref 2, .ref 3, .ref 4, .int (skn s), .int (sdr s), .int (swa s), .int (sbu s), .int (sni s)])), (2, .inl (false, 6, sce s)), (3, .inl (false, 6, she s)), (4, .inl (false, 6, stu s)), (5, .inr (3, [.ref 6, .int (nI n)])), (6, .inl (false, 60, f)), (26, .inr (5, [.ref 27, .int (nI (wA ((wk f n 0 (wk0 s)).1))), .int (stA (wk f n 0 (wk0 s))), .int (stW (wk f n 0 (wk0 s))), .int (wF ((wk f n 0 (wk0 s)).1)), .int (wG ((wk f n 0 (wk0 s)).1)), .int (wH ((wk f n 0 (wk0 s)).1))])), (27, .inr (0, [.ref 28, .ref 29, .ref 30, .int (skn (wS ((wk f n 0 (wk0 s)).1))), .int (sdr (wS ((wk f n 0 (wk0 s)).1))), .int (swa (wS ((wk f n 0 (wk0 s)).1))), .int (sbu (wS ((wk f n 0 (wk0 s)).1))), .int (sni (wS ((wk f n 0 (wk0 s)).1)))])), (28, .inl (false, 6, sce (wS ((wk f n 0 (wk0 s)).1)))), (29, .inl (false, 6, she (wS ((wk f n 0 (wk0 s)).1)))), (30, .inl (false, 6, stu (wS ((wk f n 0 (wk0 s)).1))))]) rfl) (Nat.le_of_ble_eq_true rfl) (fun _ _ hq9 => E_fgo ?_ hq9)
  show E _ _ 15 [.ref 0] [.int (b2i (decide ((wk f n 0 (wk0 s)).2 = 0)))] (hov hp [(0, .inr (6, [.ref 1, .ref 5, .ref 7, .ref 10, .ref 18, .ref 26, .ref 31, .ref 35, .ref 37, .int (nI rk)])), (1, .inr (0, [.ref 2, .ref 3, .ref 4, .int (skn s), .int (sdr s), .int (swa s), .int (sbu s), .int (sni s)])), (2, .inl (false, 6, sce s)), (3, .inl (false, 6, she s)), (4, .inl (false, 6, stu s)), (5, .inr (3, [.ref 6, .int (nI n)])), (6, .inl (false, 60, f)), (26, .inr (5, [.ref 27, .int (nI (wA ((wk f n 0 (wk0 s)).1))), .int (stA (wk f n 0 (wk0 s))), .int (stW (wk f n 0 (wk0 s))), .int (wF ((wk f n 0 (wk0 s)).1)), .int (wG ((wk f n 0 (wk0 s)).1)), .int (wH ((wk f n 0 (wk0 s)).1))])), (27, .inr (0, [.ref 28, .ref 29, .ref 30, .int (skn (wS ((wk f n 0 (wk0 s)).1))), .int (sdr (wS ((wk f n 0 (wk0 s)).1))), .int (swa (wS ((wk f n 0 (wk0 s)).1))), .int (sbu (wS ((wk f n 0 (wk0 s)).1))), .int (sni (wS ((wk f n 0 (wk0 s)).1)))])), (28, .inl (false, 6, sce (wS ((wk f n 0 (wk0 s)).1)))), (29, .inl (false, 6, she (wS ((wk f n 0 (wk0 s)).1)))), (30, .inl (false, 6, stu (wS ((wk f n 0 (wk0 s)).1))))]) _
  refine E_if_ne (tgt := 21) dX6_done_15 (by decide) (fun c => (b2i_x0 hr c).elim) (fun _ => ?_)
  refine E_bipush (v := (-5)) dX6_done_18 (by decide) ?_
  exact E_iretf dX6_done_20 rfl rfl rfl rfl

set_option maxHeartbeats 4000000 in
set_option maxRecDepth 20000 in
theorem t_done_ok (d : Nat) (rk : Nat) (f : Nat → Int32) (n : Nat) (hn : n ≤ 60) (t s : CS) (hA : Agr t s) (y0 y1 y2 y3 y4 y5 : Int32) (hf : flt f n 0 false = -6) (hr : decide ((wk f n 0 (wk0 s)).2 = 0) = true) (hA2 : Agr s (wS (wk f n 0 (wk0 s)).1)) : FC YX6_done (d + 6) [.ref 0] [(0, .inr (6, [.ref 1, .ref 5, .ref 7, .ref 10, .ref 18, .ref 26, .ref 31, .ref 35, .ref 37, .int (nI rk)])), (1, .inr (0, [.ref 2, .ref 3, .ref 4, .int (skn s), .int (sdr s), .int (swa s), .int (sbu s), .int (sni s)])), (2, .inl (false, 6, sce s)), (3, .inl (false, 6, she s)), (4, .inl (false, 6, stu s)), (5, .inr (3, [.ref 6, .int (nI n)])), (6, .inl (false, 60, f)), (26, .inr (5, [.ref 27, .int y0, .int y1, .int y2, .int y3, .int y4, .int y5])), (27, .inr (0, [.ref 28, .ref 29, .ref 30, .int (skn t), .int (sdr t), .int (swa t), .int (sbu t), .int (sni t)])), (28, .inl (false, 6, sce t)), (29, .inl (false, 6, she t)), (30, .inl (false, 6, stu t))] (some (.int (nI (wA (wk f n 0 (wk0 s)).1)))) [(0, .inr (6, [.ref 1, .ref 5, .ref 7, .ref 10, .ref 18, .ref 26, .ref 31, .ref 35, .ref 37, .int (nI rk)])), (1, .inr (0, [.ref 2, .ref 3, .ref 4, .int (skn (wS (wk f n 0 (wk0 s)).1)), .int (sdr (wS (wk f n 0 (wk0 s)).1)), .int (swa (wS (wk f n 0 (wk0 s)).1)), .int (sbu (wS (wk f n 0 (wk0 s)).1)), .int (sni (wS (wk f n 0 (wk0 s)).1))])), (2, .inl (false, 6, sce (wS (wk f n 0 (wk0 s)).1))), (3, .inl (false, 6, she (wS (wk f n 0 (wk0 s)).1))), (4, .inl (false, 6, stu (wS (wk f n 0 (wk0 s)).1))), (5, .inr (3, [.ref 6, .int (nI 0)])), (6, .inl (false, 60, f)), (26, .inr (5, [.ref 27, .int (nI (wA ((wk f n 0 (wk0 s)).1))), .int (stA (wk f n 0 (wk0 s))), .int (stW (wk f n 0 (wk0 s))), .int (wF ((wk f n 0 (wk0 s)).1)), .int (wG ((wk f n 0 (wk0 s)).1)), .int (wH ((wk f n 0 (wk0 s)).1))])), (27, .inr (0, [.ref 28, .ref 29, .ref 30, .int (skn (wS ((wk f n 0 (wk0 s)).1))), .int (sdr (wS ((wk f n 0 (wk0 s)).1))), .int (swa (wS ((wk f n 0 (wk0 s)).1))), .int (sbu (wS ((wk f n 0 (wk0 s)).1))), .int (sni (wS ((wk f n 0 (wk0 s)).1)))])), (28, .inl (false, 6, sce (wS ((wk f n 0 (wk0 s)).1)))), (29, .inl (false, 6, she (wS ((wk f n 0 (wk0 s)).1)))), (30, .inl (false, 6, stu (wS ((wk f n 0 (wk0 s)).1))))] := by
  intro hp
  refine E_aload_n dX6_done_0 rfl ?_
  refine E_get dX6_done_1 fX6_43 (by decide) rfl rfl ?_
  refine E_aload_n dX6_done_4 rfl ?_
  refine E_get dX6_done_5 fX6_19 (by decide) rfl rfl ?_
  refine E_aload_n dX6_done_8 rfl ?_
  refine E_get dX6_done_9 fX6_12 (by decide) rfl rfl ?_
  refine E_callV (As := [.ref 5, .ref 1]) (l' := [.ref 26, .ref 5, .ref 1, .null, .null, .null, .null, .null, .null]) (st := []) dX6_done_12 kX6_118 iX5_tryOut vX5_tryOut (by decide) rfl rfl MX5_tryOut rfl rfl (Nat.le_of_ble_eq_true rfl) (FC.use (c_tryOut_ok d f n hn t s hA y0 y1 y2 y3 y4 y5 hf) rfl (L2 := [(0, .inr (6, [.ref 1, .ref 5, .ref 7, .ref 10, .ref 18, .ref 26, .ref 31, .ref 35, .ref 37, .int (nI rk)])), (1, .inr (0, [.ref 2, .ref 3, .ref 4, .int (skn s), .int (sdr s), .int (swa s), .int (sbu s), .int (sni s)])), (2, .inl (false, 6, sce s)), (3, .inl (false, 6, she s)), (4, .inl (false, 6, stu s)), (5, .inr (3, [.ref 6, .int (nI n)])), (6, .inl (false, 60, f)), (26, .inr (5, [.ref 27, .int (nI (wA ((wk f n 0 (wk0 s)).1))), .int (stA (wk f n 0 (wk0 s))), .int (stW (wk f n 0 (wk0 s))), .int (wF ((wk f n 0 (wk0 s)).1)), .int (wG ((wk f n 0 (wk0 s)).1)), .int (wH ((wk f n 0 (wk0 s)).1))])), (27, .inr (0, [.ref 28, .ref 29, .ref 30, .int (skn (wS ((wk f n 0 (wk0 s)).1))), .int (sdr (wS ((wk f n 0 (wk0 s)).1))), .int (swa (wS ((wk f n 0 (wk0 s)).1))), .int (sbu (wS ((wk f n 0 (wk0 s)).1))), .int (sni (wS ((wk f n 0 (wk0 s)).1)))])), (28, .inl (false, 6, sce (wS ((wk f n 0 (wk0 s)).1)))), (29, .inl (false, 6, she (wS ((wk f n 0 (wk0 s)).1)))), (30, .inl (false, 6, stu (wS ((wk f n 0 (wk0 s)).1))))]) rfl) (Nat.le_of_ble_eq_true rfl) (fun _ _ hq9 => E_fgo ?_ hq9)
  show E _ _ 15 [.ref 0] [.int (b2i (decide ((wk f n 0 (wk0 s)).2 = 0)))] (hov hp [(0, .inr (6, [.ref 1, .ref 5, .ref 7, .ref 10, .ref 18, .ref 26, .ref 31, .ref 35, .ref 37, .int (nI rk)])), (1, .inr (0, [.ref 2, .ref 3, .ref 4, .int (skn s), .int (sdr s), .int (swa s), .int (sbu s), .int (sni s)])), (2, .inl (false, 6, sce s)), (3, .inl (false, 6, she s)), (4, .inl (false, 6, stu s)), (5, .inr (3, [.ref 6, .int (nI n)])), (6, .inl (false, 60, f)), (26, .inr (5, [.ref 27, .int (nI (wA ((wk f n 0 (wk0 s)).1))), .int (stA (wk f n 0 (wk0 s))), .int (stW (wk f n 0 (wk0 s))), .int (wF ((wk f n 0 (wk0 s)).1)), .int (wG ((wk f n 0 (wk0 s)).1)), .int (wH ((wk f n 0 (wk0 s)).1))])), (27, .inr (0, [.ref 28, .ref 29, .ref 30, .int (skn (wS ((wk f n 0 (wk0 s)).1))), .int (sdr (wS ((wk f n 0 (wk0 s)).1))), .int (swa (wS ((wk f n 0 (wk0 s)).1))), .int (sbu (wS ((wk f n 0 (wk0 s)).1))), .int (sni (wS ((wk f n 0 (wk0 s)).1)))])), (28, .inl (false, 6, sce (wS ((wk f n 0 (wk0 s)).1)))), (29, .inl (false, 6, she (wS ((wk f n 0 (wk0 s)).1)))), (30, .inl (false, 6, stu (wS ((wk f n 0 (wk0 s)).1))))]) _
  refine E_if_ne (tgt := 21) dX6_done_15 (by decide) (fun _ => ?_) (fun c => (b2i_x1 hr c).elim)
  refine E_aload_n dX6_done_21 rfl ?_
  refine E_get dX6_done_22 fX6_12 (by decide) rfl rfl ?_
  refine E_aload_n dX6_done_25 rfl ?_
  refine E_get dX6_done_26 fX6_43 (by decide) rfl rfl ?_
  refine E_get dX6_done_29 fX6_128 (by decide) rfl rfl ?_
  refine E_callV (As := [.ref 27]) (l' := [.ref 1, .ref 27, .null]) (st := []) dX6_done_32 kX6_131 iX0_copyFrom vX0_copyFrom (by decide) rfl rfl MX0_copyFrom rfl rfl (Nat.le_of_ble_eq_true rfl) (FC.use (c_copy_1_27 (d + 5) s (wS (wk f n 0 (wk0 s)).1) hA2) rfl (L2 := [(0, .inr (6, [.ref 1, .ref 5, .ref 7, .ref 10, .ref 18, .ref 26, .ref 31, .ref 35, .ref 37, .int (nI rk)])), (1, .inr (0, [.ref 2, .ref 3, .ref 4, .int (skn (wS (wk f n 0 (wk0 s)).1)), .int (sdr (wS (wk f n 0 (wk0 s)).1)), .int (swa (wS (wk f n 0 (wk0 s)).1)), .int (sbu (wS (wk f n 0 (wk0 s)).1)), .int (sni (wS (wk f n 0 (wk0 s)).1))])), (2, .inl (false, 6, sce (wS (wk f n 0 (wk0 s)).1))), (3, .inl (false, 6, she (wS (wk f n 0 (wk0 s)).1))), (4, .inl (false, 6, stu (wS (wk f n 0 (wk0 s)).1))), (5, .inr (3, [.ref 6, .int (nI n)])), (6, .inl (false, 60, f)), (26, .inr (5, [.ref 27, .int (nI (wA ((wk f n 0 (wk0 s)).1))), .int (stA (wk f n 0 (wk0 s))), .int (stW (wk f n 0 (wk0 s))), .int (wF ((wk f n 0 (wk0 s)).1)), .int (wG ((wk f n 0 (wk0 s)).1)), .int (wH ((wk f n 0 (wk0 s)).1))])), (27, .inr (0, [.ref 28, .ref 29, .ref 30, .int (skn (wS ((wk f n 0 (wk0 s)).1))), .int (sdr (wS ((wk f n 0 (wk0 s)).1))), .int (swa (wS ((wk f n 0 (wk0 s)).1))), .int (sbu (wS ((wk f n 0 (wk0 s)).1))), .int (sni (wS ((wk f n 0 (wk0 s)).1)))])), (28, .inl (false, 6, sce (wS ((wk f n 0 (wk0 s)).1)))), (29, .inl (false, 6, she (wS ((wk f n 0 (wk0 s)).1)))), (30, .inl (false, 6, stu (wS ((wk f n 0 (wk0 s)).1))))]) rfl) (Nat.le_of_ble_eq_true rfl) (fun _ _ hq9 => E_fgo ?_ hq9)
  show E _ _ 35 [.ref 0] [] (hov hp [(0, .inr (6, [.ref 1, .ref 5, .ref 7, .ref 10, .ref 18, .ref 26, .ref 31, .ref 35, .ref 37, .int (nI rk)])), (1, .inr (0, [.ref 2, .ref 3, .ref 4, .int (skn (wS (wk f n 0 (wk0 s)).1)), .int (sdr (wS (wk f n 0 (wk0 s)).1)), .int (swa (wS (wk f n 0 (wk0 s)).1)), .int (sbu (wS (wk f n 0 (wk0 s)).1)), .int (sni (wS (wk f n 0 (wk0 s)).1))])), (2, .inl (false, 6, sce (wS (wk f n 0 (wk0 s)).1))), (3, .inl (false, 6, she (wS (wk f n 0 (wk0 s)).1))), (4, .inl (false, 6, stu (wS (wk f n 0 (wk0 s)).1))), (5, .inr (3, [.ref 6, .int (nI n)])), (6, .inl (false, 60, f)), (26, .inr (5, [.ref 27, .int (nI (wA ((wk f n 0 (wk0 s)).1))), .int (stA (wk f n 0 (wk0 s))), .int (stW (wk f n 0 (wk0 s))), .int (wF ((wk f n 0 (wk0 s)).1)), .int (wG ((wk f n 0 (wk0 s)).1)), .int (wH ((wk f n 0 (wk0 s)).1))])), (27, .inr (0, [.ref 28, .ref 29, .ref 30, .int (skn (wS ((wk f n 0 (wk0 s)).1))), .int (sdr (wS ((wk f n 0 (wk0 s)).1))), .int (swa (wS ((wk f n 0 (wk0 s)).1))), .int (sbu (wS ((wk f n 0 (wk0 s)).1))), .int (sni (wS ((wk f n 0 (wk0 s)).1)))])), (28, .inl (false, 6, sce (wS ((wk f n 0 (wk0 s)).1)))), (29, .inl (false, 6, she (wS ((wk f n 0 (wk0 s)).1)))), (30, .inl (false, 6, stu (wS ((wk f n 0 (wk0 s)).1))))]) _
  refine E_aload_n dX6_done_35 rfl ?_
  refine E_get dX6_done_36 fX6_19 (by decide) rfl rfl ?_
  refine E_iconst (v := 0) dX6_done_39 (by decide) ?_
  refine E_puti (fs2 := [.ref 6, .int 0]) (L2 := [(0, .inr (6, [.ref 1, .ref 5, .ref 7, .ref 10, .ref 18, .ref 26, .ref 31, .ref 35, .ref 37, .int (nI rk)])), (1, .inr (0, [.ref 2, .ref 3, .ref 4, .int (skn (wS (wk f n 0 (wk0 s)).1)), .int (sdr (wS (wk f n 0 (wk0 s)).1)), .int (swa (wS (wk f n 0 (wk0 s)).1)), .int (sbu (wS (wk f n 0 (wk0 s)).1)), .int (sni (wS (wk f n 0 (wk0 s)).1))])), (2, .inl (false, 6, sce (wS (wk f n 0 (wk0 s)).1))), (3, .inl (false, 6, she (wS (wk f n 0 (wk0 s)).1))), (4, .inl (false, 6, stu (wS (wk f n 0 (wk0 s)).1))), (5, .inr (3, [.ref 6, .int 0])), (6, .inl (false, 60, f)), (26, .inr (5, [.ref 27, .int (nI (wA ((wk f n 0 (wk0 s)).1))), .int (stA (wk f n 0 (wk0 s))), .int (stW (wk f n 0 (wk0 s))), .int (wF ((wk f n 0 (wk0 s)).1)), .int (wG ((wk f n 0 (wk0 s)).1)), .int (wH ((wk f n 0 (wk0 s)).1))])), (27, .inr (0, [.ref 28, .ref 29, .ref 30, .int (skn (wS ((wk f n 0 (wk0 s)).1))), .int (sdr (wS ((wk f n 0 (wk0 s)).1))), .int (swa (wS ((wk f n 0 (wk0 s)).1))), .int (sbu (wS ((wk f n 0 (wk0 s)).1))), .int (sni (wS ((wk f n 0 (wk0 s)).1)))])), (28, .inl (false, 6, sce (wS ((wk f n 0 (wk0 s)).1)))), (29, .inl (false, 6, she (wS ((wk f n 0 (wk0 s)).1)))), (30, .inl (false, 6, stu (wS ((wk f n 0 (wk0 s)).1))))]) dX6_done_40 fX6_111 fpX3_1 (by decide) rfl (Nat.le_of_ble_eq_true rfl) rfl rfl ?_
  refine E_aload_n dX6_done_43 rfl ?_
  refine E_get dX6_done_44 fX6_43 (by decide) rfl rfl ?_
  refine E_get dX6_done_47 fX6_135 (by decide) rfl rfl ?_
  exact E_iretf dX6_done_50 rfl rfl rfl rfl

set_option maxHeartbeats 4000000 in
set_option maxRecDepth 20000 in
theorem t_beh_unk (d : Nat) (rk : Nat) (x v : Int32) (hx : inL (Int32.toInt64 x) 0 5 = false) : FC YX6_behind (d + 6) [.ref 0, .int x, .int v] [(0, .inr (6, [.ref 1, .ref 5, .ref 7, .ref 10, .ref 18, .ref 26, .ref 31, .ref 35, .ref 37, .int (nI rk)]))] (some (.int (-1))) [(0, .inr (6, [.ref 1, .ref 5, .ref 7, .ref 10, .ref 18, .ref 26, .ref 31, .ref 35, .ref 37, .int (nI rk)]))] := by
  intro hp
  refine E_iload_n dX6_behind_0 rfl ?_
  refine E_callS (As := [.int x]) (l' := [.int x]) (st := []) dX6_behind_1 kX6_65 sX6_isHeap MX6_isHeap rfl rfl (Nat.le_of_ble_eq_true rfl) (FC.use (c_isHeap (d + 4) _) rfl (L2 := [(0, .inr (6, [.ref 1, .ref 5, .ref 7, .ref 10, .ref 18, .ref 26, .ref 31, .ref 35, .ref 37, .int (nI rk)]))]) rfl) (Nat.le_of_ble_eq_true rfl) (fun _ _ hq9 => E_fgo ?_ hq9)
  show E _ _ 4 [.ref 0, .int x, .int v] [.int (b2i (inL (Int32.toInt64 x) 0 5))] (hov hp [(0, .inr (6, [.ref 1, .ref 5, .ref 7, .ref 10, .ref 18, .ref 26, .ref 31, .ref 35, .ref 37, .int (nI rk)]))]) _
  refine E_if_ne (tgt := 9) dX6_behind_4 (by decide) (fun c => (b2i_x0 hx c).elim) (fun _ => ?_)
  refine E_iconst (v := (-1)) dX6_behind_7 (by decide) ?_
  exact E_iretf dX6_behind_8 rfl rfl rfl rfl

set_option maxHeartbeats 4000000 in
set_option maxRecDepth 20000 in
theorem t_beh_out (d : Nat) (rk : Nat) (x v : Int32) (hx : inL (Int32.toInt64 x) 0 5 = true) (hv : inL (Int32.toInt64 v) 0 2 = false) : FC YX6_behind (d + 6) [.ref 0, .int x, .int v] [(0, .inr (6, [.ref 1, .ref 5, .ref 7, .ref 10, .ref 18, .ref 26, .ref 31, .ref 35, .ref 37, .int (nI rk)]))] (some (.int (-2))) [(0, .inr (6, [.ref 1, .ref 5, .ref 7, .ref 10, .ref 18, .ref 26, .ref 31, .ref 35, .ref 37, .int (nI rk)]))] := by
  intro hp
  refine E_iload_n dX6_behind_0 rfl ?_
  refine E_callS (As := [.int x]) (l' := [.int x]) (st := []) dX6_behind_1 kX6_65 sX6_isHeap MX6_isHeap rfl rfl (Nat.le_of_ble_eq_true rfl) (FC.use (c_isHeap (d + 4) _) rfl (L2 := [(0, .inr (6, [.ref 1, .ref 5, .ref 7, .ref 10, .ref 18, .ref 26, .ref 31, .ref 35, .ref 37, .int (nI rk)]))]) rfl) (Nat.le_of_ble_eq_true rfl) (fun _ _ hq9 => E_fgo ?_ hq9)
  show E _ _ 4 [.ref 0, .int x, .int v] [.int (b2i (inL (Int32.toInt64 x) 0 5))] (hov hp [(0, .inr (6, [.ref 1, .ref 5, .ref 7, .ref 10, .ref 18, .ref 26, .ref 31, .ref 35, .ref 37, .int (nI rk)]))]) _
  refine E_if_ne (tgt := 9) dX6_behind_4 (by decide) (fun _ => ?_) (fun c => (b2i_x1 hx c).elim)
  refine E_iload_n dX6_behind_9 rfl ?_
  refine E_i2l dX6_behind_10 ?_
  refine E_lconst (v := 0) dX6_behind_11 (by decide) ?_
  refine E_ldc2 dX6_behind_12 qX6_138 ?_
  refine E_callS (As := [.long (Int32.toInt64 v), .long 0, .long 2]) (l' := [.long (Int32.toInt64 v), .null, .long 0, .null, .long 2, .null]) (st := []) dX6_behind_15 kX6_73 sX6_isIn MX6_isIn rfl rfl (Nat.le_of_ble_eq_true rfl) (FC.use (c_isIn (d + 5) _ _ _) rfl (L2 := [(0, .inr (6, [.ref 1, .ref 5, .ref 7, .ref 10, .ref 18, .ref 26, .ref 31, .ref 35, .ref 37, .int (nI rk)]))]) rfl) (Nat.le_of_ble_eq_true rfl) (fun _ _ hq9 => E_fgo ?_ hq9)
  show E _ _ 18 [.ref 0, .int x, .int v] [.int (b2i (inL (Int32.toInt64 v) 0 2))] (hov hp [(0, .inr (6, [.ref 1, .ref 5, .ref 7, .ref 10, .ref 18, .ref 26, .ref 31, .ref 35, .ref 37, .int (nI rk)]))]) _
  refine E_if_ne (tgt := 24) dX6_behind_18 (by decide) (fun c => (b2i_x0 hv c).elim) (fun _ => ?_)
  refine E_bipush (v := (-2)) dX6_behind_21 (by decide) ?_
  exact E_iretf dX6_behind_23 rfl rfl rfl rfl

set_option maxHeartbeats 4000000 in
set_option maxRecDepth 20000 in
theorem t_beh_f (d : Nat) (rk : Nat) (f : Nat → Int32) (n : Nat) (hn : n ≤ 60) (t s : CS) (hA : Agr t s) (y0 y1 y2 y3 y4 y5 : Int32) (hf : ¬ flt f n 0 false = -6) (x v : Int32) (hx : inL (Int32.toInt64 x) 0 5 = true) (hv : inL (Int32.toInt64 v) 0 2 = true) : FC YX6_behind (d + 6) [.ref 0, .int x, .int v] [(0, .inr (6, [.ref 1, .ref 5, .ref 7, .ref 10, .ref 18, .ref 26, .ref 31, .ref 35, .ref 37, .int (nI rk)])), (1, .inr (0, [.ref 2, .ref 3, .ref 4, .int (skn s), .int (sdr s), .int (swa s), .int (sbu s), .int (sni s)])), (2, .inl (false, 6, sce s)), (3, .inl (false, 6, she s)), (4, .inl (false, 6, stu s)), (5, .inr (3, [.ref 6, .int (nI n)])), (6, .inl (false, 60, f)), (26, .inr (5, [.ref 27, .int y0, .int y1, .int y2, .int y3, .int y4, .int y5])), (27, .inr (0, [.ref 28, .ref 29, .ref 30, .int (skn t), .int (sdr t), .int (swa t), .int (sbu t), .int (sni t)])), (28, .inl (false, 6, sce t)), (29, .inl (false, 6, she t)), (30, .inl (false, 6, stu t))] (some (.int (-5))) [(0, .inr (6, [.ref 1, .ref 5, .ref 7, .ref 10, .ref 18, .ref 26, .ref 31, .ref 35, .ref 37, .int (nI rk)])), (1, .inr (0, [.ref 2, .ref 3, .ref 4, .int (skn s), .int (sdr s), .int (swa s), .int (sbu s), .int (sni s)])), (2, .inl (false, 6, sce s)), (3, .inl (false, 6, she s)), (4, .inl (false, 6, stu s)), (5, .inr (3, [.ref 6, .int (nI n)])), (6, .inl (false, 60, f)), (26, .inr (5, [.ref 27, .int 0, .int (-6), .int (-6), .int 0, .int (-6), .int (-6)])), (27, .inr (0, [.ref 28, .ref 29, .ref 30, .int (skn s), .int (sdr s), .int (swa s), .int (sbu s), .int (sni s)])), (28, .inl (false, 6, sce s)), (29, .inl (false, 6, she s)), (30, .inl (false, 6, stu s))] := by
  intro hp
  refine E_iload_n dX6_behind_0 rfl ?_
  refine E_callS (As := [.int x]) (l' := [.int x]) (st := []) dX6_behind_1 kX6_65 sX6_isHeap MX6_isHeap rfl rfl (Nat.le_of_ble_eq_true rfl) (FC.use (c_isHeap (d + 4) _) rfl (L2 := [(0, .inr (6, [.ref 1, .ref 5, .ref 7, .ref 10, .ref 18, .ref 26, .ref 31, .ref 35, .ref 37, .int (nI rk)])), (1, .inr (0, [.ref 2, .ref 3, .ref 4, .int (skn s), .int (sdr s), .int (swa s), .int (sbu s), .int (sni s)])), (2, .inl (false, 6, sce s)), (3, .inl (false, 6, she s)), (4, .inl (false, 6, stu s)), (5, .inr (3, [.ref 6, .int (nI n)])), (6, .inl (false, 60, f)), (26, .inr (5, [.ref 27, .int y0, .int y1, .int y2, .int y3, .int y4, .int y5])), (27, .inr (0, [.ref 28, .ref 29, .ref 30, .int (skn t), .int (sdr t), .int (swa t), .int (sbu t), .int (sni t)])), (28, .inl (false, 6, sce t)), (29, .inl (false, 6, she t)), (30, .inl (false, 6, stu t))]) rfl) (Nat.le_of_ble_eq_true rfl) (fun _ _ hq9 => E_fgo ?_ hq9)
  show E _ _ 4 [.ref 0, .int x, .int v] [.int (b2i (inL (Int32.toInt64 x) 0 5))] (hov hp [(0, .inr (6, [.ref 1, .ref 5, .ref 7, .ref 10, .ref 18, .ref 26, .ref 31, .ref 35, .ref 37, .int (nI rk)])), (1, .inr (0, [.ref 2, .ref 3, .ref 4, .int (skn s), .int (sdr s), .int (swa s), .int (sbu s), .int (sni s)])), (2, .inl (false, 6, sce s)), (3, .inl (false, 6, she s)), (4, .inl (false, 6, stu s)), (5, .inr (3, [.ref 6, .int (nI n)])), (6, .inl (false, 60, f)), (26, .inr (5, [.ref 27, .int y0, .int y1, .int y2, .int y3, .int y4, .int y5])), (27, .inr (0, [.ref 28, .ref 29, .ref 30, .int (skn t), .int (sdr t), .int (swa t), .int (sbu t), .int (sni t)])), (28, .inl (false, 6, sce t)), (29, .inl (false, 6, she t)), (30, .inl (false, 6, stu t))]) _
  refine E_if_ne (tgt := 9) dX6_behind_4 (by decide) (fun _ => ?_) (fun c => (b2i_x1 hx c).elim)
  refine E_iload_n dX6_behind_9 rfl ?_
  refine E_i2l dX6_behind_10 ?_
  refine E_lconst (v := 0) dX6_behind_11 (by decide) ?_
  refine E_ldc2 dX6_behind_12 qX6_138 ?_
  refine E_callS (As := [.long (Int32.toInt64 v), .long 0, .long 2]) (l' := [.long (Int32.toInt64 v), .null, .long 0, .null, .long 2, .null]) (st := []) dX6_behind_15 kX6_73 sX6_isIn MX6_isIn rfl rfl (Nat.le_of_ble_eq_true rfl) (FC.use (c_isIn (d + 5) _ _ _) rfl (L2 := [(0, .inr (6, [.ref 1, .ref 5, .ref 7, .ref 10, .ref 18, .ref 26, .ref 31, .ref 35, .ref 37, .int (nI rk)])), (1, .inr (0, [.ref 2, .ref 3, .ref 4, .int (skn s), .int (sdr s), .int (swa s), .int (sbu s), .int (sni s)])), (2, .inl (false, 6, sce s)), (3, .inl (false, 6, she s)), (4, .inl (false, 6, stu s)), (5, .inr (3, [.ref 6, .int (nI n)])), (6, .inl (false, 60, f)), (26, .inr (5, [.ref 27, .int y0, .int y1, .int y2, .int y3, .int y4, .int y5])), (27, .inr (0, [.ref 28, .ref 29, .ref 30, .int (skn t), .int (sdr t), .int (swa t), .int (sbu t), .int (sni t)])), (28, .inl (false, 6, sce t)), (29, .inl (false, 6, she t)), (30, .inl (false, 6, stu t))]) rfl) (Nat.le_of_ble_eq_true rfl) (fun _ _ hq9 => E_fgo ?_ hq9)
  show E _ _ 18 [.ref 0, .int x, .int v] [.int (b2i (inL (Int32.toInt64 v) 0 2))] (hov hp [(0, .inr (6, [.ref 1, .ref 5, .ref 7, .ref 10, .ref 18, .ref 26, .ref 31, .ref 35, .ref 37, .int (nI rk)])), (1, .inr (0, [.ref 2, .ref 3, .ref 4, .int (skn s), .int (sdr s), .int (swa s), .int (sbu s), .int (sni s)])), (2, .inl (false, 6, sce s)), (3, .inl (false, 6, she s)), (4, .inl (false, 6, stu s)), (5, .inr (3, [.ref 6, .int (nI n)])), (6, .inl (false, 60, f)), (26, .inr (5, [.ref 27, .int y0, .int y1, .int y2, .int y3, .int y4, .int y5])), (27, .inr (0, [.ref 28, .ref 29, .ref 30, .int (skn t), .int (sdr t), .int (swa t), .int (sbu t), .int (sni t)])), (28, .inl (false, 6, sce t)), (29, .inl (false, 6, she t)), (30, .inl (false, 6, stu t))]) _
  refine E_if_ne (tgt := 24) dX6_behind_18 (by decide) (fun _ => ?_) (fun c => (b2i_x1 hv c).elim)
  refine E_aload_n dX6_behind_24 rfl ?_
  refine E_get dX6_behind_25 fX6_43 (by decide) rfl rfl ?_
  refine E_aload_n dX6_behind_28 rfl ?_
  refine E_get dX6_behind_29 fX6_19 (by decide) rfl rfl ?_
  refine E_aload_n dX6_behind_32 rfl ?_
  refine E_get dX6_behind_33 fX6_12 (by decide) rfl rfl ?_
  refine E_callV (As := [.ref 5, .ref 1]) (l' := [.ref 26, .ref 5, .ref 1, .null, .null, .null, .null, .null, .null]) (st := []) dX6_behind_36 kX6_118 iX5_tryOut vX5_tryOut (by decide) rfl rfl MX5_tryOut rfl rfl (Nat.le_of_ble_eq_true rfl) (FC.use (c_tryOut_fault d f n hn t s hA y0 y1 y2 y3 y4 y5 hf) rfl (L2 := [(0, .inr (6, [.ref 1, .ref 5, .ref 7, .ref 10, .ref 18, .ref 26, .ref 31, .ref 35, .ref 37, .int (nI rk)])), (1, .inr (0, [.ref 2, .ref 3, .ref 4, .int (skn s), .int (sdr s), .int (swa s), .int (sbu s), .int (sni s)])), (2, .inl (false, 6, sce s)), (3, .inl (false, 6, she s)), (4, .inl (false, 6, stu s)), (5, .inr (3, [.ref 6, .int (nI n)])), (6, .inl (false, 60, f)), (26, .inr (5, [.ref 27, .int 0, .int (-6), .int (-6), .int 0, .int (-6), .int (-6)])), (27, .inr (0, [.ref 28, .ref 29, .ref 30, .int (skn s), .int (sdr s), .int (swa s), .int (sbu s), .int (sni s)])), (28, .inl (false, 6, sce s)), (29, .inl (false, 6, she s)), (30, .inl (false, 6, stu s))]) rfl) (Nat.le_of_ble_eq_true rfl) (fun _ _ hq9 => E_fgo ?_ hq9)
  show E _ _ 39 [.ref 0, .int x, .int v] [.int (b2i false)] (hov hp [(0, .inr (6, [.ref 1, .ref 5, .ref 7, .ref 10, .ref 18, .ref 26, .ref 31, .ref 35, .ref 37, .int (nI rk)])), (1, .inr (0, [.ref 2, .ref 3, .ref 4, .int (skn s), .int (sdr s), .int (swa s), .int (sbu s), .int (sni s)])), (2, .inl (false, 6, sce s)), (3, .inl (false, 6, she s)), (4, .inl (false, 6, stu s)), (5, .inr (3, [.ref 6, .int (nI n)])), (6, .inl (false, 60, f)), (26, .inr (5, [.ref 27, .int 0, .int (-6), .int (-6), .int 0, .int (-6), .int (-6)])), (27, .inr (0, [.ref 28, .ref 29, .ref 30, .int (skn s), .int (sdr s), .int (swa s), .int (sbu s), .int (sni s)])), (28, .inl (false, 6, sce s)), (29, .inl (false, 6, she s)), (30, .inl (false, 6, stu s))]) _
  refine E_if_ne (tgt := 45) dX6_behind_39 (by decide) (fun c => (b2i_x0 rfl c).elim) (fun _ => ?_)
  refine E_bipush (v := (-5)) dX6_behind_42 (by decide) ?_
  exact E_iretf dX6_behind_44 rfl rfl rfl rfl

set_option maxHeartbeats 4000000 in
set_option maxRecDepth 20000 in
theorem t_beh_n (d : Nat) (rk : Nat) (f : Nat → Int32) (n : Nat) (hn : n ≤ 60) (t s : CS) (hA : Agr t s) (y0 y1 y2 y3 y4 y5 : Int32) (hf : flt f n 0 false = -6) (hr : decide ((wk f n 0 (wk0 s)).2 = 0) = false) (x v : Int32) (hx : inL (Int32.toInt64 x) 0 5 = true) (hv : inL (Int32.toInt64 v) 0 2 = true) : FC YX6_behind (d + 6) [.ref 0, .int x, .int v] [(0, .inr (6, [.ref 1, .ref 5, .ref 7, .ref 10, .ref 18, .ref 26, .ref 31, .ref 35, .ref 37, .int (nI rk)])), (1, .inr (0, [.ref 2, .ref 3, .ref 4, .int (skn s), .int (sdr s), .int (swa s), .int (sbu s), .int (sni s)])), (2, .inl (false, 6, sce s)), (3, .inl (false, 6, she s)), (4, .inl (false, 6, stu s)), (5, .inr (3, [.ref 6, .int (nI n)])), (6, .inl (false, 60, f)), (26, .inr (5, [.ref 27, .int y0, .int y1, .int y2, .int y3, .int y4, .int y5])), (27, .inr (0, [.ref 28, .ref 29, .ref 30, .int (skn t), .int (sdr t), .int (swa t), .int (sbu t), .int (sni t)])), (28, .inl (false, 6, sce t)), (29, .inl (false, 6, she t)), (30, .inl (false, 6, stu t))] (some (.int (-5))) [(0, .inr (6, [.ref 1, .ref 5, .ref 7, .ref 10, .ref 18, .ref 26, .ref 31, .ref 35, .ref 37, .int (nI rk)])), (1, .inr (0, [.ref 2, .ref 3, .ref 4, .int (skn s), .int (sdr s), .int (swa s), .int (sbu s), .int (sni s)])), (2, .inl (false, 6, sce s)), (3, .inl (false, 6, she s)), (4, .inl (false, 6, stu s)), (5, .inr (3, [.ref 6, .int (nI n)])), (6, .inl (false, 60, f)), (26, .inr (5, [.ref 27, .int (nI (wA ((wk f n 0 (wk0 s)).1))), .int (stA (wk f n 0 (wk0 s))), .int (stW (wk f n 0 (wk0 s))), .int (wF ((wk f n 0 (wk0 s)).1)), .int (wG ((wk f n 0 (wk0 s)).1)), .int (wH ((wk f n 0 (wk0 s)).1))])), (27, .inr (0, [.ref 28, .ref 29, .ref 30, .int (skn (wS ((wk f n 0 (wk0 s)).1))), .int (sdr (wS ((wk f n 0 (wk0 s)).1))), .int (swa (wS ((wk f n 0 (wk0 s)).1))), .int (sbu (wS ((wk f n 0 (wk0 s)).1))), .int (sni (wS ((wk f n 0 (wk0 s)).1)))])), (28, .inl (false, 6, sce (wS ((wk f n 0 (wk0 s)).1)))), (29, .inl (false, 6, she (wS ((wk f n 0 (wk0 s)).1)))), (30, .inl (false, 6, stu (wS ((wk f n 0 (wk0 s)).1))))] := by
  intro hp
  refine E_iload_n dX6_behind_0 rfl ?_
  refine E_callS (As := [.int x]) (l' := [.int x]) (st := []) dX6_behind_1 kX6_65 sX6_isHeap MX6_isHeap rfl rfl (Nat.le_of_ble_eq_true rfl) (FC.use (c_isHeap (d + 4) _) rfl (L2 := [(0, .inr (6, [.ref 1, .ref 5, .ref 7, .ref 10, .ref 18, .ref 26, .ref 31, .ref 35, .ref 37, .int (nI rk)])), (1, .inr (0, [.ref 2, .ref 3, .ref 4, .int (skn s), .int (sdr s), .int (swa s), .int (sbu s), .int (sni s)])), (2, .inl (false, 6, sce s)), (3, .inl (false, 6, she s)), (4, .inl (false, 6, stu s)), (5, .inr (3, [.ref 6, .int (nI n)])), (6, .inl (false, 60, f)), (26, .inr (5, [.ref 27, .int y0, .int y1, .int y2, .int y3, .int y4, .int y5])), (27, .inr (0, [.ref 28, .ref 29, .ref 30, .int (skn t), .int (sdr t), .int (swa t), .int (sbu t), .int (sni t)])), (28, .inl (false, 6, sce t)), (29, .inl (false, 6, she t)), (30, .inl (false, 6, stu t))]) rfl) (Nat.le_of_ble_eq_true rfl) (fun _ _ hq9 => E_fgo ?_ hq9)
  show E _ _ 4 [.ref 0, .int x, .int v] [.int (b2i (inL (Int32.toInt64 x) 0 5))] (hov hp [(0, .inr (6, [.ref 1, .ref 5, .ref 7, .ref 10, .ref 18, .ref 26, .ref 31, .ref 35, .ref 37, .int (nI rk)])), (1, .inr (0, [.ref 2, .ref 3, .ref 4, .int (skn s), .int (sdr s), .int (swa s), .int (sbu s), .int (sni s)])), (2, .inl (false, 6, sce s)), (3, .inl (false, 6, she s)), (4, .inl (false, 6, stu s)), (5, .inr (3, [.ref 6, .int (nI n)])), (6, .inl (false, 60, f)), (26, .inr (5, [.ref 27, .int y0, .int y1, .int y2, .int y3, .int y4, .int y5])), (27, .inr (0, [.ref 28, .ref 29, .ref 30, .int (skn t), .int (sdr t), .int (swa t), .int (sbu t), .int (sni t)])), (28, .inl (false, 6, sce t)), (29, .inl (false, 6, she t)), (30, .inl (false, 6, stu t))]) _
  refine E_if_ne (tgt := 9) dX6_behind_4 (by decide) (fun _ => ?_) (fun c => (b2i_x1 hx c).elim)
  refine E_iload_n dX6_behind_9 rfl ?_
  refine E_i2l dX6_behind_10 ?_
  refine E_lconst (v := 0) dX6_behind_11 (by decide) ?_
  refine E_ldc2 dX6_behind_12 qX6_138 ?_
  refine E_callS (As := [.long (Int32.toInt64 v), .long 0, .long 2]) (l' := [.long (Int32.toInt64 v), .null, .long 0, .null, .long 2, .null]) (st := []) dX6_behind_15 kX6_73 sX6_isIn MX6_isIn rfl rfl (Nat.le_of_ble_eq_true rfl) (FC.use (c_isIn (d + 5) _ _ _) rfl (L2 := [(0, .inr (6, [.ref 1, .ref 5, .ref 7, .ref 10, .ref 18, .ref 26, .ref 31, .ref 35, .ref 37, .int (nI rk)])), (1, .inr (0, [.ref 2, .ref 3, .ref 4, .int (skn s), .int (sdr s), .int (swa s), .int (sbu s), .int (sni s)])), (2, .inl (false, 6, sce s)), (3, .inl (false, 6, she s)), (4, .inl (false, 6, stu s)), (5, .inr (3, [.ref 6, .int (nI n)])), (6, .inl (false, 60, f)), (26, .inr (5, [.ref 27, .int y0, .int y1, .int y2, .int y3, .int y4, .int y5])), (27, .inr (0, [.ref 28, .ref 29, .ref 30, .int (skn t), .int (sdr t), .int (swa t), .int (sbu t), .int (sni t)])), (28, .inl (false, 6, sce t)), (29, .inl (false, 6, she t)), (30, .inl (false, 6, stu t))]) rfl) (Nat.le_of_ble_eq_true rfl) (fun _ _ hq9 => E_fgo ?_ hq9)
  show E _ _ 18 [.ref 0, .int x, .int v] [.int (b2i (inL (Int32.toInt64 v) 0 2))] (hov hp [(0, .inr (6, [.ref 1, .ref 5, .ref 7, .ref 10, .ref 18, .ref 26, .ref 31, .ref 35, .ref 37, .int (nI rk)])), (1, .inr (0, [.ref 2, .ref 3, .ref 4, .int (skn s), .int (sdr s), .int (swa s), .int (sbu s), .int (sni s)])), (2, .inl (false, 6, sce s)), (3, .inl (false, 6, she s)), (4, .inl (false, 6, stu s)), (5, .inr (3, [.ref 6, .int (nI n)])), (6, .inl (false, 60, f)), (26, .inr (5, [.ref 27, .int y0, .int y1, .int y2, .int y3, .int y4, .int y5])), (27, .inr (0, [.ref 28, .ref 29, .ref 30, .int (skn t), .int (sdr t), .int (swa t), .int (sbu t), .int (sni t)])), (28, .inl (false, 6, sce t)), (29, .inl (false, 6, she t)), (30, .inl (false, 6, stu t))]) _
  refine E_if_ne (tgt := 24) dX6_behind_18 (by decide) (fun _ => ?_) (fun c => (b2i_x1 hv c).elim)
  refine E_aload_n dX6_behind_24 rfl ?_
  refine E_get dX6_behind_25 fX6_43 (by decide) rfl rfl ?_
  refine E_aload_n dX6_behind_28 rfl ?_
  refine E_get dX6_behind_29 fX6_19 (by decide) rfl rfl ?_
  refine E_aload_n dX6_behind_32 rfl ?_
  refine E_get dX6_behind_33 fX6_12 (by decide) rfl rfl ?_
  refine E_callV (As := [.ref 5, .ref 1]) (l' := [.ref 26, .ref 5, .ref 1, .null, .null, .null, .null, .null, .null]) (st := []) dX6_behind_36 kX6_118 iX5_tryOut vX5_tryOut (by decide) rfl rfl MX5_tryOut rfl rfl (Nat.le_of_ble_eq_true rfl) (FC.use (c_tryOut_ok d f n hn t s hA y0 y1 y2 y3 y4 y5 hf) rfl (L2 := [(0, .inr (6, [.ref 1, .ref 5, .ref 7, .ref 10, .ref 18, .ref 26, .ref 31, .ref 35, .ref 37, .int (nI rk)])), (1, .inr (0, [.ref 2, .ref 3, .ref 4, .int (skn s), .int (sdr s), .int (swa s), .int (sbu s), .int (sni s)])), (2, .inl (false, 6, sce s)), (3, .inl (false, 6, she s)), (4, .inl (false, 6, stu s)), (5, .inr (3, [.ref 6, .int (nI n)])), (6, .inl (false, 60, f)), (26, .inr (5, [.ref 27, .int (nI (wA ((wk f n 0 (wk0 s)).1))), .int (stA (wk f n 0 (wk0 s))), .int (stW (wk f n 0 (wk0 s))), .int (wF ((wk f n 0 (wk0 s)).1)), .int (wG ((wk f n 0 (wk0 s)).1)), .int (wH ((wk f n 0 (wk0 s)).1))])), (27, .inr (0, [.ref 28, .ref 29, .ref 30, .int (skn (wS ((wk f n 0 (wk0 s)).1))), .int (sdr (wS ((wk f n 0 (wk0 s)).1))), .int (swa (wS ((wk f n 0 (wk0 s)).1))), .int (sbu (wS ((wk f n 0 (wk0 s)).1))), .int (sni (wS ((wk f n 0 (wk0 s)).1)))])), (28, .inl (false, 6, sce (wS ((wk f n 0 (wk0 s)).1)))), (29, .inl (false, 6, she (wS ((wk f n 0 (wk0 s)).1)))), (30, .inl (false, 6, stu (wS ((wk f n 0 (wk0 s)).1))))]) rfl) (Nat.le_of_ble_eq_true rfl) (fun _ _ hq9 => E_fgo ?_ hq9)
  show E _ _ 39 [.ref 0, .int x, .int v] [.int (b2i (decide ((wk f n 0 (wk0 s)).2 = 0)))] (hov hp [(0, .inr (6, [.ref 1, .ref 5, .ref 7, .ref 10, .ref 18, .ref 26, .ref 31, .ref 35, .ref 37, .int (nI rk)])), (1, .inr (0, [.ref 2, .ref 3, .ref 4, .int (skn s), .int (sdr s), .int (swa s), .int (sbu s), .int (sni s)])), (2, .inl (false, 6, sce s)), (3, .inl (false, 6, she s)), (4, .inl (false, 6, stu s)), (5, .inr (3, [.ref 6, .int (nI n)])), (6, .inl (false, 60, f)), (26, .inr (5, [.ref 27, .int (nI (wA ((wk f n 0 (wk0 s)).1))), .int (stA (wk f n 0 (wk0 s))), .int (stW (wk f n 0 (wk0 s))), .int (wF ((wk f n 0 (wk0 s)).1)), .int (wG ((wk f n 0 (wk0 s)).1)), .int (wH ((wk f n 0 (wk0 s)).1))])), (27, .inr (0, [.ref 28, .ref 29, .ref 30, .int (skn (wS ((wk f n 0 (wk0 s)).1))), .int (sdr (wS ((wk f n 0 (wk0 s)).1))), .int (swa (wS ((wk f n 0 (wk0 s)).1))), .int (sbu (wS ((wk f n 0 (wk0 s)).1))), .int (sni (wS ((wk f n 0 (wk0 s)).1)))])), (28, .inl (false, 6, sce (wS ((wk f n 0 (wk0 s)).1)))), (29, .inl (false, 6, she (wS ((wk f n 0 (wk0 s)).1)))), (30, .inl (false, 6, stu (wS ((wk f n 0 (wk0 s)).1))))]) _
  refine E_if_ne (tgt := 45) dX6_behind_39 (by decide) (fun c => (b2i_x0 hr c).elim) (fun _ => ?_)
  refine E_bipush (v := (-5)) dX6_behind_42 (by decide) ?_
  exact E_iretf dX6_behind_44 rfl rfl rfl rfl

set_option maxHeartbeats 4000000 in
set_option maxRecDepth 20000 in
theorem t_beh_0 (d : Nat) (rk : Nat) (f : Nat → Int32) (n : Nat) (hn : n ≤ 60) (t s : CS) (hA : Agr t s) (y0 y1 y2 y3 y4 y5 : Int32) (hf : flt f n 0 false = -6) (hr : decide ((wk f n 0 (wk0 s)).2 = 0) = true) (h : Nat) (hh : h < 6) (hx : inL (Int32.toInt64 (nI h)) 0 5 = true) : FC YX6_behind (d + 6) [.ref 0, .int (nI h), .int 0] [(0, .inr (6, [.ref 1, .ref 5, .ref 7, .ref 10, .ref 18, .ref 26, .ref 31, .ref 35, .ref 37, .int (nI rk)])), (1, .inr (0, [.ref 2, .ref 3, .ref 4, .int (skn s), .int (sdr s), .int (swa s), .int (sbu s), .int (sni s)])), (2, .inl (false, 6, sce s)), (3, .inl (false, 6, she s)), (4, .inl (false, 6, stu s)), (5, .inr (3, [.ref 6, .int (nI n)])), (6, .inl (false, 60, f)), (26, .inr (5, [.ref 27, .int y0, .int y1, .int y2, .int y3, .int y4, .int y5])), (27, .inr (0, [.ref 28, .ref 29, .ref 30, .int (skn t), .int (sdr t), .int (swa t), .int (sbu t), .int (sni t)])), (28, .inl (false, 6, sce t)), (29, .inl (false, 6, she t)), (30, .inl (false, 6, stu t))] (some (.int (she (wS (wk f n 0 (wk0 s)).1) h))) [(0, .inr (6, [.ref 1, .ref 5, .ref 7, .ref 10, .ref 18, .ref 26, .ref 31, .ref 35, .ref 37, .int (nI rk)])), (1, .inr (0, [.ref 2, .ref 3, .ref 4, .int (skn s), .int (sdr s), .int (swa s), .int (sbu s), .int (sni s)])), (2, .inl (false, 6, sce s)), (3, .inl (false, 6, she s)), (4, .inl (false, 6, stu s)), (5, .inr (3, [.ref 6, .int (nI n)])), (6, .inl (false, 60, f)), (26, .inr (5, [.ref 27, .int (nI (wA ((wk f n 0 (wk0 s)).1))), .int (stA (wk f n 0 (wk0 s))), .int (stW (wk f n 0 (wk0 s))), .int (wF ((wk f n 0 (wk0 s)).1)), .int (wG ((wk f n 0 (wk0 s)).1)), .int (wH ((wk f n 0 (wk0 s)).1))])), (27, .inr (0, [.ref 28, .ref 29, .ref 30, .int (skn (wS ((wk f n 0 (wk0 s)).1))), .int (sdr (wS ((wk f n 0 (wk0 s)).1))), .int (swa (wS ((wk f n 0 (wk0 s)).1))), .int (sbu (wS ((wk f n 0 (wk0 s)).1))), .int (sni (wS ((wk f n 0 (wk0 s)).1)))])), (28, .inl (false, 6, sce (wS ((wk f n 0 (wk0 s)).1)))), (29, .inl (false, 6, she (wS ((wk f n 0 (wk0 s)).1)))), (30, .inl (false, 6, stu (wS ((wk f n 0 (wk0 s)).1))))] := by
  intro hp
  refine E_iload_n dX6_behind_0 rfl ?_
  refine E_callS (As := [.int (nI h)]) (l' := [.int (nI h)]) (st := []) dX6_behind_1 kX6_65 sX6_isHeap MX6_isHeap rfl rfl (Nat.le_of_ble_eq_true rfl) (FC.use (c_isHeap (d + 4) _) rfl (L2 := [(0, .inr (6, [.ref 1, .ref 5, .ref 7, .ref 10, .ref 18, .ref 26, .ref 31, .ref 35, .ref 37, .int (nI rk)])), (1, .inr (0, [.ref 2, .ref 3, .ref 4, .int (skn s), .int (sdr s), .int (swa s), .int (sbu s), .int (sni s)])), (2, .inl (false, 6, sce s)), (3, .inl (false, 6, she s)), (4, .inl (false, 6, stu s)), (5, .inr (3, [.ref 6, .int (nI n)])), (6, .inl (false, 60, f)), (26, .inr (5, [.ref 27, .int y0, .int y1, .int y2, .int y3, .int y4, .int y5])), (27, .inr (0, [.ref 28, .ref 29, .ref 30, .int (skn t), .int (sdr t), .int (swa t), .int (sbu t), .int (sni t)])), (28, .inl (false, 6, sce t)), (29, .inl (false, 6, she t)), (30, .inl (false, 6, stu t))]) rfl) (Nat.le_of_ble_eq_true rfl) (fun _ _ hq9 => E_fgo ?_ hq9)
  show E _ _ 4 [.ref 0, .int (nI h), .int 0] [.int (b2i (inL (Int32.toInt64 (nI h)) 0 5))] (hov hp [(0, .inr (6, [.ref 1, .ref 5, .ref 7, .ref 10, .ref 18, .ref 26, .ref 31, .ref 35, .ref 37, .int (nI rk)])), (1, .inr (0, [.ref 2, .ref 3, .ref 4, .int (skn s), .int (sdr s), .int (swa s), .int (sbu s), .int (sni s)])), (2, .inl (false, 6, sce s)), (3, .inl (false, 6, she s)), (4, .inl (false, 6, stu s)), (5, .inr (3, [.ref 6, .int (nI n)])), (6, .inl (false, 60, f)), (26, .inr (5, [.ref 27, .int y0, .int y1, .int y2, .int y3, .int y4, .int y5])), (27, .inr (0, [.ref 28, .ref 29, .ref 30, .int (skn t), .int (sdr t), .int (swa t), .int (sbu t), .int (sni t)])), (28, .inl (false, 6, sce t)), (29, .inl (false, 6, she t)), (30, .inl (false, 6, stu t))]) _
  refine E_if_ne (tgt := 9) dX6_behind_4 (by decide) (fun _ => ?_) (fun c => (b2i_x1 hx c).elim)
  refine E_iload_n dX6_behind_9 rfl ?_
  refine E_i2l dX6_behind_10 ?_
  refine E_lconst (v := 0) dX6_behind_11 (by decide) ?_
  refine E_ldc2 dX6_behind_12 qX6_138 ?_
  refine E_callS (As := [.long (Int32.toInt64 0), .long 0, .long 2]) (l' := [.long (Int32.toInt64 0), .null, .long 0, .null, .long 2, .null]) (st := []) dX6_behind_15 kX6_73 sX6_isIn MX6_isIn rfl rfl (Nat.le_of_ble_eq_true rfl) (FC.use (c_isIn (d + 5) _ _ _) rfl (L2 := [(0, .inr (6, [.ref 1, .ref 5, .ref 7, .ref 10, .ref 18, .ref 26, .ref 31, .ref 35, .ref 37, .int (nI rk)])), (1, .inr (0, [.ref 2, .ref 3, .ref 4, .int (skn s), .int (sdr s), .int (swa s), .int (sbu s), .int (sni s)])), (2, .inl (false, 6, sce s)), (3, .inl (false, 6, she s)), (4, .inl (false, 6, stu s)), (5, .inr (3, [.ref 6, .int (nI n)])), (6, .inl (false, 60, f)), (26, .inr (5, [.ref 27, .int y0, .int y1, .int y2, .int y3, .int y4, .int y5])), (27, .inr (0, [.ref 28, .ref 29, .ref 30, .int (skn t), .int (sdr t), .int (swa t), .int (sbu t), .int (sni t)])), (28, .inl (false, 6, sce t)), (29, .inl (false, 6, she t)), (30, .inl (false, 6, stu t))]) rfl) (Nat.le_of_ble_eq_true rfl) (fun _ _ hq9 => E_fgo ?_ hq9)
  show E _ _ 18 [.ref 0, .int (nI h), .int 0] [.int (b2i (inL (Int32.toInt64 0) 0 2))] (hov hp [(0, .inr (6, [.ref 1, .ref 5, .ref 7, .ref 10, .ref 18, .ref 26, .ref 31, .ref 35, .ref 37, .int (nI rk)])), (1, .inr (0, [.ref 2, .ref 3, .ref 4, .int (skn s), .int (sdr s), .int (swa s), .int (sbu s), .int (sni s)])), (2, .inl (false, 6, sce s)), (3, .inl (false, 6, she s)), (4, .inl (false, 6, stu s)), (5, .inr (3, [.ref 6, .int (nI n)])), (6, .inl (false, 60, f)), (26, .inr (5, [.ref 27, .int y0, .int y1, .int y2, .int y3, .int y4, .int y5])), (27, .inr (0, [.ref 28, .ref 29, .ref 30, .int (skn t), .int (sdr t), .int (swa t), .int (sbu t), .int (sni t)])), (28, .inl (false, 6, sce t)), (29, .inl (false, 6, she t)), (30, .inl (false, 6, stu t))]) _
  refine E_if_ne (tgt := 24) dX6_behind_18 (by decide) (fun _ => ?_) (fun c => (b2i_x1 (by decide) c).elim)
  refine E_aload_n dX6_behind_24 rfl ?_
  refine E_get dX6_behind_25 fX6_43 (by decide) rfl rfl ?_
  refine E_aload_n dX6_behind_28 rfl ?_
  refine E_get dX6_behind_29 fX6_19 (by decide) rfl rfl ?_
  refine E_aload_n dX6_behind_32 rfl ?_
  refine E_get dX6_behind_33 fX6_12 (by decide) rfl rfl ?_
  refine E_callV (As := [.ref 5, .ref 1]) (l' := [.ref 26, .ref 5, .ref 1, .null, .null, .null, .null, .null, .null]) (st := []) dX6_behind_36 kX6_118 iX5_tryOut vX5_tryOut (by decide) rfl rfl MX5_tryOut rfl rfl (Nat.le_of_ble_eq_true rfl) (FC.use (c_tryOut_ok d f n hn t s hA y0 y1 y2 y3 y4 y5 hf) rfl (L2 := [(0, .inr (6, [.ref 1, .ref 5, .ref 7, .ref 10, .ref 18, .ref 26, .ref 31, .ref 35, .ref 37, .int (nI rk)])), (1, .inr (0, [.ref 2, .ref 3, .ref 4, .int (skn s), .int (sdr s), .int (swa s), .int (sbu s), .int (sni s)])), (2, .inl (false, 6, sce s)), (3, .inl (false, 6, she s)), (4, .inl (false, 6, stu s)), (5, .inr (3, [.ref 6, .int (nI n)])), (6, .inl (false, 60, f)), (26, .inr (5, [.ref 27, .int (nI (wA ((wk f n 0 (wk0 s)).1))), .int (stA (wk f n 0 (wk0 s))), .int (stW (wk f n 0 (wk0 s))), .int (wF ((wk f n 0 (wk0 s)).1)), .int (wG ((wk f n 0 (wk0 s)).1)), .int (wH ((wk f n 0 (wk0 s)).1))])), (27, .inr (0, [.ref 28, .ref 29, .ref 30, .int (skn (wS ((wk f n 0 (wk0 s)).1))), .int (sdr (wS ((wk f n 0 (wk0 s)).1))), .int (swa (wS ((wk f n 0 (wk0 s)).1))), .int (sbu (wS ((wk f n 0 (wk0 s)).1))), .int (sni (wS ((wk f n 0 (wk0 s)).1)))])), (28, .inl (false, 6, sce (wS ((wk f n 0 (wk0 s)).1)))), (29, .inl (false, 6, she (wS ((wk f n 0 (wk0 s)).1)))), (30, .inl (false, 6, stu (wS ((wk f n 0 (wk0 s)).1))))]) rfl) (Nat.le_of_ble_eq_true rfl) (fun _ _ hq9 => E_fgo ?_ hq9)
  show E _ _ 39 [.ref 0, .int (nI h), .int 0] [.int (b2i (decide ((wk f n 0 (wk0 s)).2 = 0)))] (hov hp [(0, .inr (6, [.ref 1, .ref 5, .ref 7, .ref 10, .ref 18, .ref 26, .ref 31, .ref 35, .ref 37, .int (nI rk)])), (1, .inr (0, [.ref 2, .ref 3, .ref 4, .int (skn s), .int (sdr s), .int (swa s), .int (sbu s), .int (sni s)])), (2, .inl (false, 6, sce s)), (3, .inl (false, 6, she s)), (4, .inl (false, 6, stu s)), (5, .inr (3, [.ref 6, .int (nI n)])), (6, .inl (false, 60, f)), (26, .inr (5, [.ref 27, .int (nI (wA ((wk f n 0 (wk0 s)).1))), .int (stA (wk f n 0 (wk0 s))), .int (stW (wk f n 0 (wk0 s))), .int (wF ((wk f n 0 (wk0 s)).1)), .int (wG ((wk f n 0 (wk0 s)).1)), .int (wH ((wk f n 0 (wk0 s)).1))])), (27, .inr (0, [.ref 28, .ref 29, .ref 30, .int (skn (wS ((wk f n 0 (wk0 s)).1))), .int (sdr (wS ((wk f n 0 (wk0 s)).1))), .int (swa (wS ((wk f n 0 (wk0 s)).1))), .int (sbu (wS ((wk f n 0 (wk0 s)).1))), .int (sni (wS ((wk f n 0 (wk0 s)).1)))])), (28, .inl (false, 6, sce (wS ((wk f n 0 (wk0 s)).1)))), (29, .inl (false, 6, she (wS ((wk f n 0 (wk0 s)).1)))), (30, .inl (false, 6, stu (wS ((wk f n 0 (wk0 s)).1))))]) _
  refine E_if_ne (tgt := 45) dX6_behind_39 (by decide) (fun _ => ?_) (fun c => (b2i_x1 hr c).elim)
  refine E_iload_n dX6_behind_45 rfl ?_
  refine E_lookup (off := 26) (tgt := 72) dX6_behind_46 (by decide) (by decide) (by decide) ?_
  refine E_aload_n dX6_behind_72 rfl ?_
  refine E_get dX6_behind_73 fX6_43 (by decide) rfl rfl ?_
  refine E_get dX6_behind_76 fX6_128 (by decide) rfl rfl ?_
  refine E_get dX6_behind_79 fX6_140 (by decide) rfl rfl ?_
  refine E_iload_n dX6_behind_82 rfl ?_
  refine E_ialdN (j := h) dX6_behind_83 (by decide) rfl (by omega) (by decide) ?_
  exact E_iretf dX6_behind_84 rfl rfl rfl rfl

set_option maxHeartbeats 4000000 in
set_option maxRecDepth 20000 in
theorem t_beh_1 (d : Nat) (rk : Nat) (f : Nat → Int32) (n : Nat) (hn : n ≤ 60) (t s : CS) (hA : Agr t s) (y0 y1 y2 y3 y4 y5 : Int32) (hf : flt f n 0 false = -6) (hr : decide ((wk f n 0 (wk0 s)).2 = 0) = true) (h : Nat) (hh : h < 6) (hx : inL (Int32.toInt64 (nI h)) 0 5 = true) : FC YX6_behind (d + 6) [.ref 0, .int (nI h), .int 1] [(0, .inr (6, [.ref 1, .ref 5, .ref 7, .ref 10, .ref 18, .ref 26, .ref 31, .ref 35, .ref 37, .int (nI rk)])), (1, .inr (0, [.ref 2, .ref 3, .ref 4, .int (skn s), .int (sdr s), .int (swa s), .int (sbu s), .int (sni s)])), (2, .inl (false, 6, sce s)), (3, .inl (false, 6, she s)), (4, .inl (false, 6, stu s)), (5, .inr (3, [.ref 6, .int (nI n)])), (6, .inl (false, 60, f)), (26, .inr (5, [.ref 27, .int y0, .int y1, .int y2, .int y3, .int y4, .int y5])), (27, .inr (0, [.ref 28, .ref 29, .ref 30, .int (skn t), .int (sdr t), .int (swa t), .int (sbu t), .int (sni t)])), (28, .inl (false, 6, sce t)), (29, .inl (false, 6, she t)), (30, .inl (false, 6, stu t))] (some (.int (stu (wS (wk f n 0 (wk0 s)).1) h))) [(0, .inr (6, [.ref 1, .ref 5, .ref 7, .ref 10, .ref 18, .ref 26, .ref 31, .ref 35, .ref 37, .int (nI rk)])), (1, .inr (0, [.ref 2, .ref 3, .ref 4, .int (skn s), .int (sdr s), .int (swa s), .int (sbu s), .int (sni s)])), (2, .inl (false, 6, sce s)), (3, .inl (false, 6, she s)), (4, .inl (false, 6, stu s)), (5, .inr (3, [.ref 6, .int (nI n)])), (6, .inl (false, 60, f)), (26, .inr (5, [.ref 27, .int (nI (wA ((wk f n 0 (wk0 s)).1))), .int (stA (wk f n 0 (wk0 s))), .int (stW (wk f n 0 (wk0 s))), .int (wF ((wk f n 0 (wk0 s)).1)), .int (wG ((wk f n 0 (wk0 s)).1)), .int (wH ((wk f n 0 (wk0 s)).1))])), (27, .inr (0, [.ref 28, .ref 29, .ref 30, .int (skn (wS ((wk f n 0 (wk0 s)).1))), .int (sdr (wS ((wk f n 0 (wk0 s)).1))), .int (swa (wS ((wk f n 0 (wk0 s)).1))), .int (sbu (wS ((wk f n 0 (wk0 s)).1))), .int (sni (wS ((wk f n 0 (wk0 s)).1)))])), (28, .inl (false, 6, sce (wS ((wk f n 0 (wk0 s)).1)))), (29, .inl (false, 6, she (wS ((wk f n 0 (wk0 s)).1)))), (30, .inl (false, 6, stu (wS ((wk f n 0 (wk0 s)).1))))] := by
  intro hp
  refine E_iload_n dX6_behind_0 rfl ?_
  refine E_callS (As := [.int (nI h)]) (l' := [.int (nI h)]) (st := []) dX6_behind_1 kX6_65 sX6_isHeap MX6_isHeap rfl rfl (Nat.le_of_ble_eq_true rfl) (FC.use (c_isHeap (d + 4) _) rfl (L2 := [(0, .inr (6, [.ref 1, .ref 5, .ref 7, .ref 10, .ref 18, .ref 26, .ref 31, .ref 35, .ref 37, .int (nI rk)])), (1, .inr (0, [.ref 2, .ref 3, .ref 4, .int (skn s), .int (sdr s), .int (swa s), .int (sbu s), .int (sni s)])), (2, .inl (false, 6, sce s)), (3, .inl (false, 6, she s)), (4, .inl (false, 6, stu s)), (5, .inr (3, [.ref 6, .int (nI n)])), (6, .inl (false, 60, f)), (26, .inr (5, [.ref 27, .int y0, .int y1, .int y2, .int y3, .int y4, .int y5])), (27, .inr (0, [.ref 28, .ref 29, .ref 30, .int (skn t), .int (sdr t), .int (swa t), .int (sbu t), .int (sni t)])), (28, .inl (false, 6, sce t)), (29, .inl (false, 6, she t)), (30, .inl (false, 6, stu t))]) rfl) (Nat.le_of_ble_eq_true rfl) (fun _ _ hq9 => E_fgo ?_ hq9)
  show E _ _ 4 [.ref 0, .int (nI h), .int 1] [.int (b2i (inL (Int32.toInt64 (nI h)) 0 5))] (hov hp [(0, .inr (6, [.ref 1, .ref 5, .ref 7, .ref 10, .ref 18, .ref 26, .ref 31, .ref 35, .ref 37, .int (nI rk)])), (1, .inr (0, [.ref 2, .ref 3, .ref 4, .int (skn s), .int (sdr s), .int (swa s), .int (sbu s), .int (sni s)])), (2, .inl (false, 6, sce s)), (3, .inl (false, 6, she s)), (4, .inl (false, 6, stu s)), (5, .inr (3, [.ref 6, .int (nI n)])), (6, .inl (false, 60, f)), (26, .inr (5, [.ref 27, .int y0, .int y1, .int y2, .int y3, .int y4, .int y5])), (27, .inr (0, [.ref 28, .ref 29, .ref 30, .int (skn t), .int (sdr t), .int (swa t), .int (sbu t), .int (sni t)])), (28, .inl (false, 6, sce t)), (29, .inl (false, 6, she t)), (30, .inl (false, 6, stu t))]) _
  refine E_if_ne (tgt := 9) dX6_behind_4 (by decide) (fun _ => ?_) (fun c => (b2i_x1 hx c).elim)
  refine E_iload_n dX6_behind_9 rfl ?_
  refine E_i2l dX6_behind_10 ?_
  refine E_lconst (v := 0) dX6_behind_11 (by decide) ?_
  refine E_ldc2 dX6_behind_12 qX6_138 ?_
  refine E_callS (As := [.long (Int32.toInt64 1), .long 0, .long 2]) (l' := [.long (Int32.toInt64 1), .null, .long 0, .null, .long 2, .null]) (st := []) dX6_behind_15 kX6_73 sX6_isIn MX6_isIn rfl rfl (Nat.le_of_ble_eq_true rfl) (FC.use (c_isIn (d + 5) _ _ _) rfl (L2 := [(0, .inr (6, [.ref 1, .ref 5, .ref 7, .ref 10, .ref 18, .ref 26, .ref 31, .ref 35, .ref 37, .int (nI rk)])), (1, .inr (0, [.ref 2, .ref 3, .ref 4, .int (skn s), .int (sdr s), .int (swa s), .int (sbu s), .int (sni s)])), (2, .inl (false, 6, sce s)), (3, .inl (false, 6, she s)), (4, .inl (false, 6, stu s)), (5, .inr (3, [.ref 6, .int (nI n)])), (6, .inl (false, 60, f)), (26, .inr (5, [.ref 27, .int y0, .int y1, .int y2, .int y3, .int y4, .int y5])), (27, .inr (0, [.ref 28, .ref 29, .ref 30, .int (skn t), .int (sdr t), .int (swa t), .int (sbu t), .int (sni t)])), (28, .inl (false, 6, sce t)), (29, .inl (false, 6, she t)), (30, .inl (false, 6, stu t))]) rfl) (Nat.le_of_ble_eq_true rfl) (fun _ _ hq9 => E_fgo ?_ hq9)
  show E _ _ 18 [.ref 0, .int (nI h), .int 1] [.int (b2i (inL (Int32.toInt64 1) 0 2))] (hov hp [(0, .inr (6, [.ref 1, .ref 5, .ref 7, .ref 10, .ref 18, .ref 26, .ref 31, .ref 35, .ref 37, .int (nI rk)])), (1, .inr (0, [.ref 2, .ref 3, .ref 4, .int (skn s), .int (sdr s), .int (swa s), .int (sbu s), .int (sni s)])), (2, .inl (false, 6, sce s)), (3, .inl (false, 6, she s)), (4, .inl (false, 6, stu s)), (5, .inr (3, [.ref 6, .int (nI n)])), (6, .inl (false, 60, f)), (26, .inr (5, [.ref 27, .int y0, .int y1, .int y2, .int y3, .int y4, .int y5])), (27, .inr (0, [.ref 28, .ref 29, .ref 30, .int (skn t), .int (sdr t), .int (swa t), .int (sbu t), .int (sni t)])), (28, .inl (false, 6, sce t)), (29, .inl (false, 6, she t)), (30, .inl (false, 6, stu t))]) _
  refine E_if_ne (tgt := 24) dX6_behind_18 (by decide) (fun _ => ?_) (fun c => (b2i_x1 (by decide) c).elim)
  refine E_aload_n dX6_behind_24 rfl ?_
  refine E_get dX6_behind_25 fX6_43 (by decide) rfl rfl ?_
  refine E_aload_n dX6_behind_28 rfl ?_
  refine E_get dX6_behind_29 fX6_19 (by decide) rfl rfl ?_
  refine E_aload_n dX6_behind_32 rfl ?_
  refine E_get dX6_behind_33 fX6_12 (by decide) rfl rfl ?_
  refine E_callV (As := [.ref 5, .ref 1]) (l' := [.ref 26, .ref 5, .ref 1, .null, .null, .null, .null, .null, .null]) (st := []) dX6_behind_36 kX6_118 iX5_tryOut vX5_tryOut (by decide) rfl rfl MX5_tryOut rfl rfl (Nat.le_of_ble_eq_true rfl) (FC.use (c_tryOut_ok d f n hn t s hA y0 y1 y2 y3 y4 y5 hf) rfl (L2 := [(0, .inr (6, [.ref 1, .ref 5, .ref 7, .ref 10, .ref 18, .ref 26, .ref 31, .ref 35, .ref 37, .int (nI rk)])), (1, .inr (0, [.ref 2, .ref 3, .ref 4, .int (skn s), .int (sdr s), .int (swa s), .int (sbu s), .int (sni s)])), (2, .inl (false, 6, sce s)), (3, .inl (false, 6, she s)), (4, .inl (false, 6, stu s)), (5, .inr (3, [.ref 6, .int (nI n)])), (6, .inl (false, 60, f)), (26, .inr (5, [.ref 27, .int (nI (wA ((wk f n 0 (wk0 s)).1))), .int (stA (wk f n 0 (wk0 s))), .int (stW (wk f n 0 (wk0 s))), .int (wF ((wk f n 0 (wk0 s)).1)), .int (wG ((wk f n 0 (wk0 s)).1)), .int (wH ((wk f n 0 (wk0 s)).1))])), (27, .inr (0, [.ref 28, .ref 29, .ref 30, .int (skn (wS ((wk f n 0 (wk0 s)).1))), .int (sdr (wS ((wk f n 0 (wk0 s)).1))), .int (swa (wS ((wk f n 0 (wk0 s)).1))), .int (sbu (wS ((wk f n 0 (wk0 s)).1))), .int (sni (wS ((wk f n 0 (wk0 s)).1)))])), (28, .inl (false, 6, sce (wS ((wk f n 0 (wk0 s)).1)))), (29, .inl (false, 6, she (wS ((wk f n 0 (wk0 s)).1)))), (30, .inl (false, 6, stu (wS ((wk f n 0 (wk0 s)).1))))]) rfl) (Nat.le_of_ble_eq_true rfl) (fun _ _ hq9 => E_fgo ?_ hq9)
  show E _ _ 39 [.ref 0, .int (nI h), .int 1] [.int (b2i (decide ((wk f n 0 (wk0 s)).2 = 0)))] (hov hp [(0, .inr (6, [.ref 1, .ref 5, .ref 7, .ref 10, .ref 18, .ref 26, .ref 31, .ref 35, .ref 37, .int (nI rk)])), (1, .inr (0, [.ref 2, .ref 3, .ref 4, .int (skn s), .int (sdr s), .int (swa s), .int (sbu s), .int (sni s)])), (2, .inl (false, 6, sce s)), (3, .inl (false, 6, she s)), (4, .inl (false, 6, stu s)), (5, .inr (3, [.ref 6, .int (nI n)])), (6, .inl (false, 60, f)), (26, .inr (5, [.ref 27, .int (nI (wA ((wk f n 0 (wk0 s)).1))), .int (stA (wk f n 0 (wk0 s))), .int (stW (wk f n 0 (wk0 s))), .int (wF ((wk f n 0 (wk0 s)).1)), .int (wG ((wk f n 0 (wk0 s)).1)), .int (wH ((wk f n 0 (wk0 s)).1))])), (27, .inr (0, [.ref 28, .ref 29, .ref 30, .int (skn (wS ((wk f n 0 (wk0 s)).1))), .int (sdr (wS ((wk f n 0 (wk0 s)).1))), .int (swa (wS ((wk f n 0 (wk0 s)).1))), .int (sbu (wS ((wk f n 0 (wk0 s)).1))), .int (sni (wS ((wk f n 0 (wk0 s)).1)))])), (28, .inl (false, 6, sce (wS ((wk f n 0 (wk0 s)).1)))), (29, .inl (false, 6, she (wS ((wk f n 0 (wk0 s)).1)))), (30, .inl (false, 6, stu (wS ((wk f n 0 (wk0 s)).1))))]) _
  refine E_if_ne (tgt := 45) dX6_behind_39 (by decide) (fun _ => ?_) (fun c => (b2i_x1 hr c).elim)
  refine E_iload_n dX6_behind_45 rfl ?_
  refine E_lookup (off := 39) (tgt := 85) dX6_behind_46 (by decide) (by decide) (by decide) ?_
  refine E_aload_n dX6_behind_85 rfl ?_
  refine E_get dX6_behind_86 fX6_43 (by decide) rfl rfl ?_
  refine E_get dX6_behind_89 fX6_128 (by decide) rfl rfl ?_
  refine E_get dX6_behind_92 fX6_143 (by decide) rfl rfl ?_
  refine E_iload_n dX6_behind_95 rfl ?_
  refine E_ialdN (j := h) dX6_behind_96 (by decide) rfl (by omega) (by decide) ?_
  exact E_iretf dX6_behind_97 rfl rfl rfl rfl

set_option maxHeartbeats 4000000 in
set_option maxRecDepth 20000 in
theorem t_beh_2 (d : Nat) (rk : Nat) (f : Nat → Int32) (n : Nat) (hn : n ≤ 60) (t s : CS) (hA : Agr t s) (y0 y1 y2 y3 y4 y5 : Int32) (hf : flt f n 0 false = -6) (hr : decide ((wk f n 0 (wk0 s)).2 = 0) = true) (h : Nat) (hh : h < 6) (hx : inL (Int32.toInt64 (nI h)) 0 5 = true) : FC YX6_behind (d + 6) [.ref 0, .int (nI h), .int 2] [(0, .inr (6, [.ref 1, .ref 5, .ref 7, .ref 10, .ref 18, .ref 26, .ref 31, .ref 35, .ref 37, .int (nI rk)])), (1, .inr (0, [.ref 2, .ref 3, .ref 4, .int (skn s), .int (sdr s), .int (swa s), .int (sbu s), .int (sni s)])), (2, .inl (false, 6, sce s)), (3, .inl (false, 6, she s)), (4, .inl (false, 6, stu s)), (5, .inr (3, [.ref 6, .int (nI n)])), (6, .inl (false, 60, f)), (26, .inr (5, [.ref 27, .int y0, .int y1, .int y2, .int y3, .int y4, .int y5])), (27, .inr (0, [.ref 28, .ref 29, .ref 30, .int (skn t), .int (sdr t), .int (swa t), .int (sbu t), .int (sni t)])), (28, .inl (false, 6, sce t)), (29, .inl (false, 6, she t)), (30, .inl (false, 6, stu t))] (some (.int (sce (wS (wk f n 0 (wk0 s)).1) h))) [(0, .inr (6, [.ref 1, .ref 5, .ref 7, .ref 10, .ref 18, .ref 26, .ref 31, .ref 35, .ref 37, .int (nI rk)])), (1, .inr (0, [.ref 2, .ref 3, .ref 4, .int (skn s), .int (sdr s), .int (swa s), .int (sbu s), .int (sni s)])), (2, .inl (false, 6, sce s)), (3, .inl (false, 6, she s)), (4, .inl (false, 6, stu s)), (5, .inr (3, [.ref 6, .int (nI n)])), (6, .inl (false, 60, f)), (26, .inr (5, [.ref 27, .int (nI (wA ((wk f n 0 (wk0 s)).1))), .int (stA (wk f n 0 (wk0 s))), .int (stW (wk f n 0 (wk0 s))), .int (wF ((wk f n 0 (wk0 s)).1)), .int (wG ((wk f n 0 (wk0 s)).1)), .int (wH ((wk f n 0 (wk0 s)).1))])), (27, .inr (0, [.ref 28, .ref 29, .ref 30, .int (skn (wS ((wk f n 0 (wk0 s)).1))), .int (sdr (wS ((wk f n 0 (wk0 s)).1))), .int (swa (wS ((wk f n 0 (wk0 s)).1))), .int (sbu (wS ((wk f n 0 (wk0 s)).1))), .int (sni (wS ((wk f n 0 (wk0 s)).1)))])), (28, .inl (false, 6, sce (wS ((wk f n 0 (wk0 s)).1)))), (29, .inl (false, 6, she (wS ((wk f n 0 (wk0 s)).1)))), (30, .inl (false, 6, stu (wS ((wk f n 0 (wk0 s)).1))))] := by
  intro hp
  refine E_iload_n dX6_behind_0 rfl ?_
  refine E_callS (As := [.int (nI h)]) (l' := [.int (nI h)]) (st := []) dX6_behind_1 kX6_65 sX6_isHeap MX6_isHeap rfl rfl (Nat.le_of_ble_eq_true rfl) (FC.use (c_isHeap (d + 4) _) rfl (L2 := [(0, .inr (6, [.ref 1, .ref 5, .ref 7, .ref 10, .ref 18, .ref 26, .ref 31, .ref 35, .ref 37, .int (nI rk)])), (1, .inr (0, [.ref 2, .ref 3, .ref 4, .int (skn s), .int (sdr s), .int (swa s), .int (sbu s), .int (sni s)])), (2, .inl (false, 6, sce s)), (3, .inl (false, 6, she s)), (4, .inl (false, 6, stu s)), (5, .inr (3, [.ref 6, .int (nI n)])), (6, .inl (false, 60, f)), (26, .inr (5, [.ref 27, .int y0, .int y1, .int y2, .int y3, .int y4, .int y5])), (27, .inr (0, [.ref 28, .ref 29, .ref 30, .int (skn t), .int (sdr t), .int (swa t), .int (sbu t), .int (sni t)])), (28, .inl (false, 6, sce t)), (29, .inl (false, 6, she t)), (30, .inl (false, 6, stu t))]) rfl) (Nat.le_of_ble_eq_true rfl) (fun _ _ hq9 => E_fgo ?_ hq9)
  show E _ _ 4 [.ref 0, .int (nI h), .int 2] [.int (b2i (inL (Int32.toInt64 (nI h)) 0 5))] (hov hp [(0, .inr (6, [.ref 1, .ref 5, .ref 7, .ref 10, .ref 18, .ref 26, .ref 31, .ref 35, .ref 37, .int (nI rk)])), (1, .inr (0, [.ref 2, .ref 3, .ref 4, .int (skn s), .int (sdr s), .int (swa s), .int (sbu s), .int (sni s)])), (2, .inl (false, 6, sce s)), (3, .inl (false, 6, she s)), (4, .inl (false, 6, stu s)), (5, .inr (3, [.ref 6, .int (nI n)])), (6, .inl (false, 60, f)), (26, .inr (5, [.ref 27, .int y0, .int y1, .int y2, .int y3, .int y4, .int y5])), (27, .inr (0, [.ref 28, .ref 29, .ref 30, .int (skn t), .int (sdr t), .int (swa t), .int (sbu t), .int (sni t)])), (28, .inl (false, 6, sce t)), (29, .inl (false, 6, she t)), (30, .inl (false, 6, stu t))]) _
  refine E_if_ne (tgt := 9) dX6_behind_4 (by decide) (fun _ => ?_) (fun c => (b2i_x1 hx c).elim)
  refine E_iload_n dX6_behind_9 rfl ?_
  refine E_i2l dX6_behind_10 ?_
  refine E_lconst (v := 0) dX6_behind_11 (by decide) ?_
  refine E_ldc2 dX6_behind_12 qX6_138 ?_
  refine E_callS (As := [.long (Int32.toInt64 2), .long 0, .long 2]) (l' := [.long (Int32.toInt64 2), .null, .long 0, .null, .long 2, .null]) (st := []) dX6_behind_15 kX6_73 sX6_isIn MX6_isIn rfl rfl (Nat.le_of_ble_eq_true rfl) (FC.use (c_isIn (d + 5) _ _ _) rfl (L2 := [(0, .inr (6, [.ref 1, .ref 5, .ref 7, .ref 10, .ref 18, .ref 26, .ref 31, .ref 35, .ref 37, .int (nI rk)])), (1, .inr (0, [.ref 2, .ref 3, .ref 4, .int (skn s), .int (sdr s), .int (swa s), .int (sbu s), .int (sni s)])), (2, .inl (false, 6, sce s)), (3, .inl (false, 6, she s)), (4, .inl (false, 6, stu s)), (5, .inr (3, [.ref 6, .int (nI n)])), (6, .inl (false, 60, f)), (26, .inr (5, [.ref 27, .int y0, .int y1, .int y2, .int y3, .int y4, .int y5])), (27, .inr (0, [.ref 28, .ref 29, .ref 30, .int (skn t), .int (sdr t), .int (swa t), .int (sbu t), .int (sni t)])), (28, .inl (false, 6, sce t)), (29, .inl (false, 6, she t)), (30, .inl (false, 6, stu t))]) rfl) (Nat.le_of_ble_eq_true rfl) (fun _ _ hq9 => E_fgo ?_ hq9)
  show E _ _ 18 [.ref 0, .int (nI h), .int 2] [.int (b2i (inL (Int32.toInt64 2) 0 2))] (hov hp [(0, .inr (6, [.ref 1, .ref 5, .ref 7, .ref 10, .ref 18, .ref 26, .ref 31, .ref 35, .ref 37, .int (nI rk)])), (1, .inr (0, [.ref 2, .ref 3, .ref 4, .int (skn s), .int (sdr s), .int (swa s), .int (sbu s), .int (sni s)])), (2, .inl (false, 6, sce s)), (3, .inl (false, 6, she s)), (4, .inl (false, 6, stu s)), (5, .inr (3, [.ref 6, .int (nI n)])), (6, .inl (false, 60, f)), (26, .inr (5, [.ref 27, .int y0, .int y1, .int y2, .int y3, .int y4, .int y5])), (27, .inr (0, [.ref 28, .ref 29, .ref 30, .int (skn t), .int (sdr t), .int (swa t), .int (sbu t), .int (sni t)])), (28, .inl (false, 6, sce t)), (29, .inl (false, 6, she t)), (30, .inl (false, 6, stu t))]) _
  refine E_if_ne (tgt := 24) dX6_behind_18 (by decide) (fun _ => ?_) (fun c => (b2i_x1 (by decide) c).elim)
  refine E_aload_n dX6_behind_24 rfl ?_
  refine E_get dX6_behind_25 fX6_43 (by decide) rfl rfl ?_
  refine E_aload_n dX6_behind_28 rfl ?_
  refine E_get dX6_behind_29 fX6_19 (by decide) rfl rfl ?_
  refine E_aload_n dX6_behind_32 rfl ?_
  refine E_get dX6_behind_33 fX6_12 (by decide) rfl rfl ?_
  refine E_callV (As := [.ref 5, .ref 1]) (l' := [.ref 26, .ref 5, .ref 1, .null, .null, .null, .null, .null, .null]) (st := []) dX6_behind_36 kX6_118 iX5_tryOut vX5_tryOut (by decide) rfl rfl MX5_tryOut rfl rfl (Nat.le_of_ble_eq_true rfl) (FC.use (c_tryOut_ok d f n hn t s hA y0 y1 y2 y3 y4 y5 hf) rfl (L2 := [(0, .inr (6, [.ref 1, .ref 5, .ref 7, .ref 10, .ref 18, .ref 26, .ref 31, .ref 35, .ref 37, .int (nI rk)])), (1, .inr (0, [.ref 2, .ref 3, .ref 4, .int (skn s), .int (sdr s), .int (swa s), .int (sbu s), .int (sni s)])), (2, .inl (false, 6, sce s)), (3, .inl (false, 6, she s)), (4, .inl (false, 6, stu s)), (5, .inr (3, [.ref 6, .int (nI n)])), (6, .inl (false, 60, f)), (26, .inr (5, [.ref 27, .int (nI (wA ((wk f n 0 (wk0 s)).1))), .int (stA (wk f n 0 (wk0 s))), .int (stW (wk f n 0 (wk0 s))), .int (wF ((wk f n 0 (wk0 s)).1)), .int (wG ((wk f n 0 (wk0 s)).1)), .int (wH ((wk f n 0 (wk0 s)).1))])), (27, .inr (0, [.ref 28, .ref 29, .ref 30, .int (skn (wS ((wk f n 0 (wk0 s)).1))), .int (sdr (wS ((wk f n 0 (wk0 s)).1))), .int (swa (wS ((wk f n 0 (wk0 s)).1))), .int (sbu (wS ((wk f n 0 (wk0 s)).1))), .int (sni (wS ((wk f n 0 (wk0 s)).1)))])), (28, .inl (false, 6, sce (wS ((wk f n 0 (wk0 s)).1)))), (29, .inl (false, 6, she (wS ((wk f n 0 (wk0 s)).1)))), (30, .inl (false, 6, stu (wS ((wk f n 0 (wk0 s)).1))))]) rfl) (Nat.le_of_ble_eq_true rfl) (fun _ _ hq9 => E_fgo ?_ hq9)
  show E _ _ 39 [.ref 0, .int (nI h), .int 2] [.int (b2i (decide ((wk f n 0 (wk0 s)).2 = 0)))] (hov hp [(0, .inr (6, [.ref 1, .ref 5, .ref 7, .ref 10, .ref 18, .ref 26, .ref 31, .ref 35, .ref 37, .int (nI rk)])), (1, .inr (0, [.ref 2, .ref 3, .ref 4, .int (skn s), .int (sdr s), .int (swa s), .int (sbu s), .int (sni s)])), (2, .inl (false, 6, sce s)), (3, .inl (false, 6, she s)), (4, .inl (false, 6, stu s)), (5, .inr (3, [.ref 6, .int (nI n)])), (6, .inl (false, 60, f)), (26, .inr (5, [.ref 27, .int (nI (wA ((wk f n 0 (wk0 s)).1))), .int (stA (wk f n 0 (wk0 s))), .int (stW (wk f n 0 (wk0 s))), .int (wF ((wk f n 0 (wk0 s)).1)), .int (wG ((wk f n 0 (wk0 s)).1)), .int (wH ((wk f n 0 (wk0 s)).1))])), (27, .inr (0, [.ref 28, .ref 29, .ref 30, .int (skn (wS ((wk f n 0 (wk0 s)).1))), .int (sdr (wS ((wk f n 0 (wk0 s)).1))), .int (swa (wS ((wk f n 0 (wk0 s)).1))), .int (sbu (wS ((wk f n 0 (wk0 s)).1))), .int (sni (wS ((wk f n 0 (wk0 s)).1)))])), (28, .inl (false, 6, sce (wS ((wk f n 0 (wk0 s)).1)))), (29, .inl (false, 6, she (wS ((wk f n 0 (wk0 s)).1)))), (30, .inl (false, 6, stu (wS ((wk f n 0 (wk0 s)).1))))]) _
  refine E_if_ne (tgt := 45) dX6_behind_39 (by decide) (fun _ => ?_) (fun c => (b2i_x1 hr c).elim)
  refine E_iload_n dX6_behind_45 rfl ?_
  refine E_lookup (off := 52) (tgt := 98) dX6_behind_46 (by decide) (by decide) (by decide) ?_
  refine E_aload_n dX6_behind_98 rfl ?_
  refine E_get dX6_behind_99 fX6_43 (by decide) rfl rfl ?_
  refine E_get dX6_behind_102 fX6_128 (by decide) rfl rfl ?_
  refine E_get dX6_behind_105 fX6_83 (by decide) rfl rfl ?_
  refine E_iload_n dX6_behind_108 rfl ?_
  refine E_ialdN (j := h) dX6_behind_109 (by decide) rfl (by omega) (by decide) ?_
  exact E_iretf dX6_behind_110 rfl rfl rfl rfl

set_option maxHeartbeats 4000000 in
set_option maxRecDepth 20000 in
theorem t_then_out (d : Nat) (rk : Nat) (v : Int32) (hv : inL (Int32.toInt64 v) 0 6 = false) : FC YX6_then (d + 6) [.ref 0, .int v] [(0, .inr (6, [.ref 1, .ref 5, .ref 7, .ref 10, .ref 18, .ref 26, .ref 31, .ref 35, .ref 37, .int (nI rk)]))] (some (.int (-2))) [(0, .inr (6, [.ref 1, .ref 5, .ref 7, .ref 10, .ref 18, .ref 26, .ref 31, .ref 35, .ref 37, .int (nI rk)]))] := by
  intro hp
  refine E_iload_n dX6_then_0 rfl ?_
  refine E_i2l dX6_then_1 ?_
  refine E_lconst (v := 0) dX6_then_2 (by decide) ?_
  refine E_ldc2 dX6_then_3 qX6_90 ?_
  refine E_callS (As := [.long (Int32.toInt64 v), .long 0, .long 6]) (l' := [.long (Int32.toInt64 v), .null, .long 0, .null, .long 6, .null]) (st := []) dX6_then_6 kX6_73 sX6_isIn MX6_isIn rfl rfl (Nat.le_of_ble_eq_true rfl) (FC.use (c_isIn (d + 5) _ _ _) rfl (L2 := [(0, .inr (6, [.ref 1, .ref 5, .ref 7, .ref 10, .ref 18, .ref 26, .ref 31, .ref 35, .ref 37, .int (nI rk)]))]) rfl) (Nat.le_of_ble_eq_true rfl) (fun _ _ hq9 => E_fgo ?_ hq9)
  show E _ _ 9 [.ref 0, .int v] [.int (b2i (inL (Int32.toInt64 v) 0 6))] (hov hp [(0, .inr (6, [.ref 1, .ref 5, .ref 7, .ref 10, .ref 18, .ref 26, .ref 31, .ref 35, .ref 37, .int (nI rk)]))]) _
  refine E_if_ne (tgt := 15) dX6_then_9 (by decide) (fun c => (b2i_x0 hv c).elim) (fun _ => ?_)
  refine E_bipush (v := (-2)) dX6_then_12 (by decide) ?_
  exact E_iretf dX6_then_14 rfl rfl rfl rfl

set_option maxHeartbeats 4000000 in
set_option maxRecDepth 20000 in
theorem t_then_f (d : Nat) (rk : Nat) (f : Nat → Int32) (n : Nat) (hn : n ≤ 60) (t s : CS) (hA : Agr t s) (y0 y1 y2 y3 y4 y5 : Int32) (hf : ¬ flt f n 0 false = -6) (v : Int32) (hv : inL (Int32.toInt64 v) 0 6 = true) : FC YX6_then (d + 6) [.ref 0, .int v] [(0, .inr (6, [.ref 1, .ref 5, .ref 7, .ref 10, .ref 18, .ref 26, .ref 31, .ref 35, .ref 37, .int (nI rk)])), (1, .inr (0, [.ref 2, .ref 3, .ref 4, .int (skn s), .int (sdr s), .int (swa s), .int (sbu s), .int (sni s)])), (2, .inl (false, 6, sce s)), (3, .inl (false, 6, she s)), (4, .inl (false, 6, stu s)), (5, .inr (3, [.ref 6, .int (nI n)])), (6, .inl (false, 60, f)), (26, .inr (5, [.ref 27, .int y0, .int y1, .int y2, .int y3, .int y4, .int y5])), (27, .inr (0, [.ref 28, .ref 29, .ref 30, .int (skn t), .int (sdr t), .int (swa t), .int (sbu t), .int (sni t)])), (28, .inl (false, 6, sce t)), (29, .inl (false, 6, she t)), (30, .inl (false, 6, stu t))] (some (.int (-5))) [(0, .inr (6, [.ref 1, .ref 5, .ref 7, .ref 10, .ref 18, .ref 26, .ref 31, .ref 35, .ref 37, .int (nI rk)])), (1, .inr (0, [.ref 2, .ref 3, .ref 4, .int (skn s), .int (sdr s), .int (swa s), .int (sbu s), .int (sni s)])), (2, .inl (false, 6, sce s)), (3, .inl (false, 6, she s)), (4, .inl (false, 6, stu s)), (5, .inr (3, [.ref 6, .int (nI n)])), (6, .inl (false, 60, f)), (26, .inr (5, [.ref 27, .int 0, .int (-6), .int (-6), .int 0, .int (-6), .int (-6)])), (27, .inr (0, [.ref 28, .ref 29, .ref 30, .int (skn s), .int (sdr s), .int (swa s), .int (sbu s), .int (sni s)])), (28, .inl (false, 6, sce s)), (29, .inl (false, 6, she s)), (30, .inl (false, 6, stu s))] := by
  intro hp
  refine E_iload_n dX6_then_0 rfl ?_
  refine E_i2l dX6_then_1 ?_
  refine E_lconst (v := 0) dX6_then_2 (by decide) ?_
  refine E_ldc2 dX6_then_3 qX6_90 ?_
  refine E_callS (As := [.long (Int32.toInt64 v), .long 0, .long 6]) (l' := [.long (Int32.toInt64 v), .null, .long 0, .null, .long 6, .null]) (st := []) dX6_then_6 kX6_73 sX6_isIn MX6_isIn rfl rfl (Nat.le_of_ble_eq_true rfl) (FC.use (c_isIn (d + 5) _ _ _) rfl (L2 := [(0, .inr (6, [.ref 1, .ref 5, .ref 7, .ref 10, .ref 18, .ref 26, .ref 31, .ref 35, .ref 37, .int (nI rk)])), (1, .inr (0, [.ref 2, .ref 3, .ref 4, .int (skn s), .int (sdr s), .int (swa s), .int (sbu s), .int (sni s)])), (2, .inl (false, 6, sce s)), (3, .inl (false, 6, she s)), (4, .inl (false, 6, stu s)), (5, .inr (3, [.ref 6, .int (nI n)])), (6, .inl (false, 60, f)), (26, .inr (5, [.ref 27, .int y0, .int y1, .int y2, .int y3, .int y4, .int y5])), (27, .inr (0, [.ref 28, .ref 29, .ref 30, .int (skn t), .int (sdr t), .int (swa t), .int (sbu t), .int (sni t)])), (28, .inl (false, 6, sce t)), (29, .inl (false, 6, she t)), (30, .inl (false, 6, stu t))]) rfl) (Nat.le_of_ble_eq_true rfl) (fun _ _ hq9 => E_fgo ?_ hq9)
  show E _ _ 9 [.ref 0, .int v] [.int (b2i (inL (Int32.toInt64 v) 0 6))] (hov hp [(0, .inr (6, [.ref 1, .ref 5, .ref 7, .ref 10, .ref 18, .ref 26, .ref 31, .ref 35, .ref 37, .int (nI rk)])), (1, .inr (0, [.ref 2, .ref 3, .ref 4, .int (skn s), .int (sdr s), .int (swa s), .int (sbu s), .int (sni s)])), (2, .inl (false, 6, sce s)), (3, .inl (false, 6, she s)), (4, .inl (false, 6, stu s)), (5, .inr (3, [.ref 6, .int (nI n)])), (6, .inl (false, 60, f)), (26, .inr (5, [.ref 27, .int y0, .int y1, .int y2, .int y3, .int y4, .int y5])), (27, .inr (0, [.ref 28, .ref 29, .ref 30, .int (skn t), .int (sdr t), .int (swa t), .int (sbu t), .int (sni t)])), (28, .inl (false, 6, sce t)), (29, .inl (false, 6, she t)), (30, .inl (false, 6, stu t))]) _
  refine E_if_ne (tgt := 15) dX6_then_9 (by decide) (fun _ => ?_) (fun c => (b2i_x1 hv c).elim)
  refine E_aload_n dX6_then_15 rfl ?_
  refine E_get dX6_then_16 fX6_43 (by decide) rfl rfl ?_
  refine E_aload_n dX6_then_19 rfl ?_
  refine E_get dX6_then_20 fX6_19 (by decide) rfl rfl ?_
  refine E_aload_n dX6_then_23 rfl ?_
  refine E_get dX6_then_24 fX6_12 (by decide) rfl rfl ?_
  refine E_callV (As := [.ref 5, .ref 1]) (l' := [.ref 26, .ref 5, .ref 1, .null, .null, .null, .null, .null, .null]) (st := []) dX6_then_27 kX6_118 iX5_tryOut vX5_tryOut (by decide) rfl rfl MX5_tryOut rfl rfl (Nat.le_of_ble_eq_true rfl) (FC.use (c_tryOut_fault d f n hn t s hA y0 y1 y2 y3 y4 y5 hf) rfl (L2 := [(0, .inr (6, [.ref 1, .ref 5, .ref 7, .ref 10, .ref 18, .ref 26, .ref 31, .ref 35, .ref 37, .int (nI rk)])), (1, .inr (0, [.ref 2, .ref 3, .ref 4, .int (skn s), .int (sdr s), .int (swa s), .int (sbu s), .int (sni s)])), (2, .inl (false, 6, sce s)), (3, .inl (false, 6, she s)), (4, .inl (false, 6, stu s)), (5, .inr (3, [.ref 6, .int (nI n)])), (6, .inl (false, 60, f)), (26, .inr (5, [.ref 27, .int 0, .int (-6), .int (-6), .int 0, .int (-6), .int (-6)])), (27, .inr (0, [.ref 28, .ref 29, .ref 30, .int (skn s), .int (sdr s), .int (swa s), .int (sbu s), .int (sni s)])), (28, .inl (false, 6, sce s)), (29, .inl (false, 6, she s)), (30, .inl (false, 6, stu s))]) rfl) (Nat.le_of_ble_eq_true rfl) (fun _ _ hq9 => E_fgo ?_ hq9)
  show E _ _ 30 [.ref 0, .int v] [.int (b2i false)] (hov hp [(0, .inr (6, [.ref 1, .ref 5, .ref 7, .ref 10, .ref 18, .ref 26, .ref 31, .ref 35, .ref 37, .int (nI rk)])), (1, .inr (0, [.ref 2, .ref 3, .ref 4, .int (skn s), .int (sdr s), .int (swa s), .int (sbu s), .int (sni s)])), (2, .inl (false, 6, sce s)), (3, .inl (false, 6, she s)), (4, .inl (false, 6, stu s)), (5, .inr (3, [.ref 6, .int (nI n)])), (6, .inl (false, 60, f)), (26, .inr (5, [.ref 27, .int 0, .int (-6), .int (-6), .int 0, .int (-6), .int (-6)])), (27, .inr (0, [.ref 28, .ref 29, .ref 30, .int (skn s), .int (sdr s), .int (swa s), .int (sbu s), .int (sni s)])), (28, .inl (false, 6, sce s)), (29, .inl (false, 6, she s)), (30, .inl (false, 6, stu s))]) _
  refine E_if_ne (tgt := 36) dX6_then_30 (by decide) (fun c => (b2i_x0 rfl c).elim) (fun _ => ?_)
  refine E_bipush (v := (-5)) dX6_then_33 (by decide) ?_
  exact E_iretf dX6_then_35 rfl rfl rfl rfl

set_option maxHeartbeats 4000000 in
set_option maxRecDepth 20000 in
theorem t_then_n (d : Nat) (rk : Nat) (f : Nat → Int32) (n : Nat) (hn : n ≤ 60) (t s : CS) (hA : Agr t s) (y0 y1 y2 y3 y4 y5 : Int32) (hf : flt f n 0 false = -6) (hr : decide ((wk f n 0 (wk0 s)).2 = 0) = false) (v : Int32) (hv : inL (Int32.toInt64 v) 0 6 = true) : FC YX6_then (d + 6) [.ref 0, .int v] [(0, .inr (6, [.ref 1, .ref 5, .ref 7, .ref 10, .ref 18, .ref 26, .ref 31, .ref 35, .ref 37, .int (nI rk)])), (1, .inr (0, [.ref 2, .ref 3, .ref 4, .int (skn s), .int (sdr s), .int (swa s), .int (sbu s), .int (sni s)])), (2, .inl (false, 6, sce s)), (3, .inl (false, 6, she s)), (4, .inl (false, 6, stu s)), (5, .inr (3, [.ref 6, .int (nI n)])), (6, .inl (false, 60, f)), (26, .inr (5, [.ref 27, .int y0, .int y1, .int y2, .int y3, .int y4, .int y5])), (27, .inr (0, [.ref 28, .ref 29, .ref 30, .int (skn t), .int (sdr t), .int (swa t), .int (sbu t), .int (sni t)])), (28, .inl (false, 6, sce t)), (29, .inl (false, 6, she t)), (30, .inl (false, 6, stu t))] (some (.int (-5))) [(0, .inr (6, [.ref 1, .ref 5, .ref 7, .ref 10, .ref 18, .ref 26, .ref 31, .ref 35, .ref 37, .int (nI rk)])), (1, .inr (0, [.ref 2, .ref 3, .ref 4, .int (skn s), .int (sdr s), .int (swa s), .int (sbu s), .int (sni s)])), (2, .inl (false, 6, sce s)), (3, .inl (false, 6, she s)), (4, .inl (false, 6, stu s)), (5, .inr (3, [.ref 6, .int (nI n)])), (6, .inl (false, 60, f)), (26, .inr (5, [.ref 27, .int (nI (wA ((wk f n 0 (wk0 s)).1))), .int (stA (wk f n 0 (wk0 s))), .int (stW (wk f n 0 (wk0 s))), .int (wF ((wk f n 0 (wk0 s)).1)), .int (wG ((wk f n 0 (wk0 s)).1)), .int (wH ((wk f n 0 (wk0 s)).1))])), (27, .inr (0, [.ref 28, .ref 29, .ref 30, .int (skn (wS ((wk f n 0 (wk0 s)).1))), .int (sdr (wS ((wk f n 0 (wk0 s)).1))), .int (swa (wS ((wk f n 0 (wk0 s)).1))), .int (sbu (wS ((wk f n 0 (wk0 s)).1))), .int (sni (wS ((wk f n 0 (wk0 s)).1)))])), (28, .inl (false, 6, sce (wS ((wk f n 0 (wk0 s)).1)))), (29, .inl (false, 6, she (wS ((wk f n 0 (wk0 s)).1)))), (30, .inl (false, 6, stu (wS ((wk f n 0 (wk0 s)).1))))] := by
  intro hp
  refine E_iload_n dX6_then_0 rfl ?_
  refine E_i2l dX6_then_1 ?_
  refine E_lconst (v := 0) dX6_then_2 (by decide) ?_
  refine E_ldc2 dX6_then_3 qX6_90 ?_
  refine E_callS (As := [.long (Int32.toInt64 v), .long 0, .long 6]) (l' := [.long (Int32.toInt64 v), .null, .long 0, .null, .long 6, .null]) (st := []) dX6_then_6 kX6_73 sX6_isIn MX6_isIn rfl rfl (Nat.le_of_ble_eq_true rfl) (FC.use (c_isIn (d + 5) _ _ _) rfl (L2 := [(0, .inr (6, [.ref 1, .ref 5, .ref 7, .ref 10, .ref 18, .ref 26, .ref 31, .ref 35, .ref 37, .int (nI rk)])), (1, .inr (0, [.ref 2, .ref 3, .ref 4, .int (skn s), .int (sdr s), .int (swa s), .int (sbu s), .int (sni s)])), (2, .inl (false, 6, sce s)), (3, .inl (false, 6, she s)), (4, .inl (false, 6, stu s)), (5, .inr (3, [.ref 6, .int (nI n)])), (6, .inl (false, 60, f)), (26, .inr (5, [.ref 27, .int y0, .int y1, .int y2, .int y3, .int y4, .int y5])), (27, .inr (0, [.ref 28, .ref 29, .ref 30, .int (skn t), .int (sdr t), .int (swa t), .int (sbu t), .int (sni t)])), (28, .inl (false, 6, sce t)), (29, .inl (false, 6, she t)), (30, .inl (false, 6, stu t))]) rfl) (Nat.le_of_ble_eq_true rfl) (fun _ _ hq9 => E_fgo ?_ hq9)
  show E _ _ 9 [.ref 0, .int v] [.int (b2i (inL (Int32.toInt64 v) 0 6))] (hov hp [(0, .inr (6, [.ref 1, .ref 5, .ref 7, .ref 10, .ref 18, .ref 26, .ref 31, .ref 35, .ref 37, .int (nI rk)])), (1, .inr (0, [.ref 2, .ref 3, .ref 4, .int (skn s), .int (sdr s), .int (swa s), .int (sbu s), .int (sni s)])), (2, .inl (false, 6, sce s)), (3, .inl (false, 6, she s)), (4, .inl (false, 6, stu s)), (5, .inr (3, [.ref 6, .int (nI n)])), (6, .inl (false, 60, f)), (26, .inr (5, [.ref 27, .int y0, .int y1, .int y2, .int y3, .int y4, .int y5])), (27, .inr (0, [.ref 28, .ref 29, .ref 30, .int (skn t), .int (sdr t), .int (swa t), .int (sbu t), .int (sni t)])), (28, .inl (false, 6, sce t)), (29, .inl (false, 6, she t)), (30, .inl (false, 6, stu t))]) _
  refine E_if_ne (tgt := 15) dX6_then_9 (by decide) (fun _ => ?_) (fun c => (b2i_x1 hv c).elim)
  refine E_aload_n dX6_then_15 rfl ?_
  refine E_get dX6_then_16 fX6_43 (by decide) rfl rfl ?_
  refine E_aload_n dX6_then_19 rfl ?_
  refine E_get dX6_then_20 fX6_19 (by decide) rfl rfl ?_
  refine E_aload_n dX6_then_23 rfl ?_
  refine E_get dX6_then_24 fX6_12 (by decide) rfl rfl ?_
  refine E_callV (As := [.ref 5, .ref 1]) (l' := [.ref 26, .ref 5, .ref 1, .null, .null, .null, .null, .null, .null]) (st := []) dX6_then_27 kX6_118 iX5_tryOut vX5_tryOut (by decide) rfl rfl MX5_tryOut rfl rfl (Nat.le_of_ble_eq_true rfl) (FC.use (c_tryOut_ok d f n hn t s hA y0 y1 y2 y3 y4 y5 hf) rfl (L2 := [(0, .inr (6, [.ref 1, .ref 5, .ref 7, .ref 10, .ref 18, .ref 26, .ref 31, .ref 35, .ref 37, .int (nI rk)])), (1, .inr (0, [.ref 2, .ref 3, .ref 4, .int (skn s), .int (sdr s), .int (swa s), .int (sbu s), .int (sni s)])), (2, .inl (false, 6, sce s)), (3, .inl (false, 6, she s)), (4, .inl (false, 6, stu s)), (5, .inr (3, [.ref 6, .int (nI n)])), (6, .inl (false, 60, f)), (26, .inr (5, [.ref 27, .int (nI (wA ((wk f n 0 (wk0 s)).1))), .int (stA (wk f n 0 (wk0 s))), .int (stW (wk f n 0 (wk0 s))), .int (wF ((wk f n 0 (wk0 s)).1)), .int (wG ((wk f n 0 (wk0 s)).1)), .int (wH ((wk f n 0 (wk0 s)).1))])), (27, .inr (0, [.ref 28, .ref 29, .ref 30, .int (skn (wS ((wk f n 0 (wk0 s)).1))), .int (sdr (wS ((wk f n 0 (wk0 s)).1))), .int (swa (wS ((wk f n 0 (wk0 s)).1))), .int (sbu (wS ((wk f n 0 (wk0 s)).1))), .int (sni (wS ((wk f n 0 (wk0 s)).1)))])), (28, .inl (false, 6, sce (wS ((wk f n 0 (wk0 s)).1)))), (29, .inl (false, 6, she (wS ((wk f n 0 (wk0 s)).1)))), (30, .inl (false, 6, stu (wS ((wk f n 0 (wk0 s)).1))))]) rfl) (Nat.le_of_ble_eq_true rfl) (fun _ _ hq9 => E_fgo ?_ hq9)
  show E _ _ 30 [.ref 0, .int v] [.int (b2i (decide ((wk f n 0 (wk0 s)).2 = 0)))] (hov hp [(0, .inr (6, [.ref 1, .ref 5, .ref 7, .ref 10, .ref 18, .ref 26, .ref 31, .ref 35, .ref 37, .int (nI rk)])), (1, .inr (0, [.ref 2, .ref 3, .ref 4, .int (skn s), .int (sdr s), .int (swa s), .int (sbu s), .int (sni s)])), (2, .inl (false, 6, sce s)), (3, .inl (false, 6, she s)), (4, .inl (false, 6, stu s)), (5, .inr (3, [.ref 6, .int (nI n)])), (6, .inl (false, 60, f)), (26, .inr (5, [.ref 27, .int (nI (wA ((wk f n 0 (wk0 s)).1))), .int (stA (wk f n 0 (wk0 s))), .int (stW (wk f n 0 (wk0 s))), .int (wF ((wk f n 0 (wk0 s)).1)), .int (wG ((wk f n 0 (wk0 s)).1)), .int (wH ((wk f n 0 (wk0 s)).1))])), (27, .inr (0, [.ref 28, .ref 29, .ref 30, .int (skn (wS ((wk f n 0 (wk0 s)).1))), .int (sdr (wS ((wk f n 0 (wk0 s)).1))), .int (swa (wS ((wk f n 0 (wk0 s)).1))), .int (sbu (wS ((wk f n 0 (wk0 s)).1))), .int (sni (wS ((wk f n 0 (wk0 s)).1)))])), (28, .inl (false, 6, sce (wS ((wk f n 0 (wk0 s)).1)))), (29, .inl (false, 6, she (wS ((wk f n 0 (wk0 s)).1)))), (30, .inl (false, 6, stu (wS ((wk f n 0 (wk0 s)).1))))]) _
  refine E_if_ne (tgt := 36) dX6_then_30 (by decide) (fun c => (b2i_x0 hr c).elim) (fun _ => ?_)
  refine E_bipush (v := (-5)) dX6_then_33 (by decide) ?_
  exact E_iretf dX6_then_35 rfl rfl rfl rfl

set_option maxHeartbeats 4000000 in
set_option maxRecDepth 20000 in
theorem t_then_0 (d : Nat) (rk : Nat) (f : Nat → Int32) (n : Nat) (hn : n ≤ 60) (t s : CS) (hA : Agr t s) (y0 y1 y2 y3 y4 y5 : Int32) (hf : flt f n 0 false = -6) (hr : decide ((wk f n 0 (wk0 s)).2 = 0) = true) : FC YX6_then (d + 6) [.ref 0, .int 0] [(0, .inr (6, [.ref 1, .ref 5, .ref 7, .ref 10, .ref 18, .ref 26, .ref 31, .ref 35, .ref 37, .int (nI rk)])), (1, .inr (0, [.ref 2, .ref 3, .ref 4, .int (skn s), .int (sdr s), .int (swa s), .int (sbu s), .int (sni s)])), (2, .inl (false, 6, sce s)), (3, .inl (false, 6, she s)), (4, .inl (false, 6, stu s)), (5, .inr (3, [.ref 6, .int (nI n)])), (6, .inl (false, 60, f)), (26, .inr (5, [.ref 27, .int y0, .int y1, .int y2, .int y3, .int y4, .int y5])), (27, .inr (0, [.ref 28, .ref 29, .ref 30, .int (skn t), .int (sdr t), .int (swa t), .int (sbu t), .int (sni t)])), (28, .inl (false, 6, sce t)), (29, .inl (false, 6, she t)), (30, .inl (false, 6, stu t))] (some (.int (skn (wS (wk f n 0 (wk0 s)).1)))) [(0, .inr (6, [.ref 1, .ref 5, .ref 7, .ref 10, .ref 18, .ref 26, .ref 31, .ref 35, .ref 37, .int (nI rk)])), (1, .inr (0, [.ref 2, .ref 3, .ref 4, .int (skn s), .int (sdr s), .int (swa s), .int (sbu s), .int (sni s)])), (2, .inl (false, 6, sce s)), (3, .inl (false, 6, she s)), (4, .inl (false, 6, stu s)), (5, .inr (3, [.ref 6, .int (nI n)])), (6, .inl (false, 60, f)), (26, .inr (5, [.ref 27, .int (nI (wA ((wk f n 0 (wk0 s)).1))), .int (stA (wk f n 0 (wk0 s))), .int (stW (wk f n 0 (wk0 s))), .int (wF ((wk f n 0 (wk0 s)).1)), .int (wG ((wk f n 0 (wk0 s)).1)), .int (wH ((wk f n 0 (wk0 s)).1))])), (27, .inr (0, [.ref 28, .ref 29, .ref 30, .int (skn (wS ((wk f n 0 (wk0 s)).1))), .int (sdr (wS ((wk f n 0 (wk0 s)).1))), .int (swa (wS ((wk f n 0 (wk0 s)).1))), .int (sbu (wS ((wk f n 0 (wk0 s)).1))), .int (sni (wS ((wk f n 0 (wk0 s)).1)))])), (28, .inl (false, 6, sce (wS ((wk f n 0 (wk0 s)).1)))), (29, .inl (false, 6, she (wS ((wk f n 0 (wk0 s)).1)))), (30, .inl (false, 6, stu (wS ((wk f n 0 (wk0 s)).1))))] := by
  intro hp
  refine E_iload_n dX6_then_0 rfl ?_
  refine E_i2l dX6_then_1 ?_
  refine E_lconst (v := 0) dX6_then_2 (by decide) ?_
  refine E_ldc2 dX6_then_3 qX6_90 ?_
  refine E_callS (As := [.long (Int32.toInt64 0), .long 0, .long 6]) (l' := [.long (Int32.toInt64 0), .null, .long 0, .null, .long 6, .null]) (st := []) dX6_then_6 kX6_73 sX6_isIn MX6_isIn rfl rfl (Nat.le_of_ble_eq_true rfl) (FC.use (c_isIn (d + 5) _ _ _) rfl (L2 := [(0, .inr (6, [.ref 1, .ref 5, .ref 7, .ref 10, .ref 18, .ref 26, .ref 31, .ref 35, .ref 37, .int (nI rk)])), (1, .inr (0, [.ref 2, .ref 3, .ref 4, .int (skn s), .int (sdr s), .int (swa s), .int (sbu s), .int (sni s)])), (2, .inl (false, 6, sce s)), (3, .inl (false, 6, she s)), (4, .inl (false, 6, stu s)), (5, .inr (3, [.ref 6, .int (nI n)])), (6, .inl (false, 60, f)), (26, .inr (5, [.ref 27, .int y0, .int y1, .int y2, .int y3, .int y4, .int y5])), (27, .inr (0, [.ref 28, .ref 29, .ref 30, .int (skn t), .int (sdr t), .int (swa t), .int (sbu t), .int (sni t)])), (28, .inl (false, 6, sce t)), (29, .inl (false, 6, she t)), (30, .inl (false, 6, stu t))]) rfl) (Nat.le_of_ble_eq_true rfl) (fun _ _ hq9 => E_fgo ?_ hq9)
  show E _ _ 9 [.ref 0, .int 0] [.int (b2i (inL (Int32.toInt64 0) 0 6))] (hov hp [(0, .inr (6, [.ref 1, .ref 5, .ref 7, .ref 10, .ref 18, .ref 26, .ref 31, .ref 35, .ref 37, .int (nI rk)])), (1, .inr (0, [.ref 2, .ref 3, .ref 4, .int (skn s), .int (sdr s), .int (swa s), .int (sbu s), .int (sni s)])), (2, .inl (false, 6, sce s)), (3, .inl (false, 6, she s)), (4, .inl (false, 6, stu s)), (5, .inr (3, [.ref 6, .int (nI n)])), (6, .inl (false, 60, f)), (26, .inr (5, [.ref 27, .int y0, .int y1, .int y2, .int y3, .int y4, .int y5])), (27, .inr (0, [.ref 28, .ref 29, .ref 30, .int (skn t), .int (sdr t), .int (swa t), .int (sbu t), .int (sni t)])), (28, .inl (false, 6, sce t)), (29, .inl (false, 6, she t)), (30, .inl (false, 6, stu t))]) _
  refine E_if_ne (tgt := 15) dX6_then_9 (by decide) (fun _ => ?_) (fun c => (b2i_x1 (by decide) c).elim)
  refine E_aload_n dX6_then_15 rfl ?_
  refine E_get dX6_then_16 fX6_43 (by decide) rfl rfl ?_
  refine E_aload_n dX6_then_19 rfl ?_
  refine E_get dX6_then_20 fX6_19 (by decide) rfl rfl ?_
  refine E_aload_n dX6_then_23 rfl ?_
  refine E_get dX6_then_24 fX6_12 (by decide) rfl rfl ?_
  refine E_callV (As := [.ref 5, .ref 1]) (l' := [.ref 26, .ref 5, .ref 1, .null, .null, .null, .null, .null, .null]) (st := []) dX6_then_27 kX6_118 iX5_tryOut vX5_tryOut (by decide) rfl rfl MX5_tryOut rfl rfl (Nat.le_of_ble_eq_true rfl) (FC.use (c_tryOut_ok d f n hn t s hA y0 y1 y2 y3 y4 y5 hf) rfl (L2 := [(0, .inr (6, [.ref 1, .ref 5, .ref 7, .ref 10, .ref 18, .ref 26, .ref 31, .ref 35, .ref 37, .int (nI rk)])), (1, .inr (0, [.ref 2, .ref 3, .ref 4, .int (skn s), .int (sdr s), .int (swa s), .int (sbu s), .int (sni s)])), (2, .inl (false, 6, sce s)), (3, .inl (false, 6, she s)), (4, .inl (false, 6, stu s)), (5, .inr (3, [.ref 6, .int (nI n)])), (6, .inl (false, 60, f)), (26, .inr (5, [.ref 27, .int (nI (wA ((wk f n 0 (wk0 s)).1))), .int (stA (wk f n 0 (wk0 s))), .int (stW (wk f n 0 (wk0 s))), .int (wF ((wk f n 0 (wk0 s)).1)), .int (wG ((wk f n 0 (wk0 s)).1)), .int (wH ((wk f n 0 (wk0 s)).1))])), (27, .inr (0, [.ref 28, .ref 29, .ref 30, .int (skn (wS ((wk f n 0 (wk0 s)).1))), .int (sdr (wS ((wk f n 0 (wk0 s)).1))), .int (swa (wS ((wk f n 0 (wk0 s)).1))), .int (sbu (wS ((wk f n 0 (wk0 s)).1))), .int (sni (wS ((wk f n 0 (wk0 s)).1)))])), (28, .inl (false, 6, sce (wS ((wk f n 0 (wk0 s)).1)))), (29, .inl (false, 6, she (wS ((wk f n 0 (wk0 s)).1)))), (30, .inl (false, 6, stu (wS ((wk f n 0 (wk0 s)).1))))]) rfl) (Nat.le_of_ble_eq_true rfl) (fun _ _ hq9 => E_fgo ?_ hq9)
  show E _ _ 30 [.ref 0, .int 0] [.int (b2i (decide ((wk f n 0 (wk0 s)).2 = 0)))] (hov hp [(0, .inr (6, [.ref 1, .ref 5, .ref 7, .ref 10, .ref 18, .ref 26, .ref 31, .ref 35, .ref 37, .int (nI rk)])), (1, .inr (0, [.ref 2, .ref 3, .ref 4, .int (skn s), .int (sdr s), .int (swa s), .int (sbu s), .int (sni s)])), (2, .inl (false, 6, sce s)), (3, .inl (false, 6, she s)), (4, .inl (false, 6, stu s)), (5, .inr (3, [.ref 6, .int (nI n)])), (6, .inl (false, 60, f)), (26, .inr (5, [.ref 27, .int (nI (wA ((wk f n 0 (wk0 s)).1))), .int (stA (wk f n 0 (wk0 s))), .int (stW (wk f n 0 (wk0 s))), .int (wF ((wk f n 0 (wk0 s)).1)), .int (wG ((wk f n 0 (wk0 s)).1)), .int (wH ((wk f n 0 (wk0 s)).1))])), (27, .inr (0, [.ref 28, .ref 29, .ref 30, .int (skn (wS ((wk f n 0 (wk0 s)).1))), .int (sdr (wS ((wk f n 0 (wk0 s)).1))), .int (swa (wS ((wk f n 0 (wk0 s)).1))), .int (sbu (wS ((wk f n 0 (wk0 s)).1))), .int (sni (wS ((wk f n 0 (wk0 s)).1)))])), (28, .inl (false, 6, sce (wS ((wk f n 0 (wk0 s)).1)))), (29, .inl (false, 6, she (wS ((wk f n 0 (wk0 s)).1)))), (30, .inl (false, 6, stu (wS ((wk f n 0 (wk0 s)).1))))]) _
  refine E_if_ne (tgt := 36) dX6_then_30 (by decide) (fun _ => ?_) (fun c => (b2i_x1 hr c).elim)
  refine E_iload_n dX6_then_36 rfl ?_
  refine E_tableIn (off := 39) (tgt := 76) dX6_then_37 (by decide) (by decide) (by decide) (by decide) ?_
  refine E_aload_n dX6_then_76 rfl ?_
  refine E_get dX6_then_77 fX6_43 (by decide) rfl rfl ?_
  refine E_get dX6_then_80 fX6_128 (by decide) rfl rfl ?_
  refine E_get dX6_then_83 fX6_146 (by decide) rfl rfl ?_
  exact E_iretf dX6_then_86 rfl rfl rfl rfl

set_option maxHeartbeats 4000000 in
set_option maxRecDepth 20000 in
theorem t_then_1 (d : Nat) (rk : Nat) (f : Nat → Int32) (n : Nat) (hn : n ≤ 60) (t s : CS) (hA : Agr t s) (y0 y1 y2 y3 y4 y5 : Int32) (hf : flt f n 0 false = -6) (hr : decide ((wk f n 0 (wk0 s)).2 = 0) = true) : FC YX6_then (d + 6) [.ref 0, .int 1] [(0, .inr (6, [.ref 1, .ref 5, .ref 7, .ref 10, .ref 18, .ref 26, .ref 31, .ref 35, .ref 37, .int (nI rk)])), (1, .inr (0, [.ref 2, .ref 3, .ref 4, .int (skn s), .int (sdr s), .int (swa s), .int (sbu s), .int (sni s)])), (2, .inl (false, 6, sce s)), (3, .inl (false, 6, she s)), (4, .inl (false, 6, stu s)), (5, .inr (3, [.ref 6, .int (nI n)])), (6, .inl (false, 60, f)), (26, .inr (5, [.ref 27, .int y0, .int y1, .int y2, .int y3, .int y4, .int y5])), (27, .inr (0, [.ref 28, .ref 29, .ref 30, .int (skn t), .int (sdr t), .int (swa t), .int (sbu t), .int (sni t)])), (28, .inl (false, 6, sce t)), (29, .inl (false, 6, she t)), (30, .inl (false, 6, stu t))] (some (.int (sdr (wS (wk f n 0 (wk0 s)).1)))) [(0, .inr (6, [.ref 1, .ref 5, .ref 7, .ref 10, .ref 18, .ref 26, .ref 31, .ref 35, .ref 37, .int (nI rk)])), (1, .inr (0, [.ref 2, .ref 3, .ref 4, .int (skn s), .int (sdr s), .int (swa s), .int (sbu s), .int (sni s)])), (2, .inl (false, 6, sce s)), (3, .inl (false, 6, she s)), (4, .inl (false, 6, stu s)), (5, .inr (3, [.ref 6, .int (nI n)])), (6, .inl (false, 60, f)), (26, .inr (5, [.ref 27, .int (nI (wA ((wk f n 0 (wk0 s)).1))), .int (stA (wk f n 0 (wk0 s))), .int (stW (wk f n 0 (wk0 s))), .int (wF ((wk f n 0 (wk0 s)).1)), .int (wG ((wk f n 0 (wk0 s)).1)), .int (wH ((wk f n 0 (wk0 s)).1))])), (27, .inr (0, [.ref 28, .ref 29, .ref 30, .int (skn (wS ((wk f n 0 (wk0 s)).1))), .int (sdr (wS ((wk f n 0 (wk0 s)).1))), .int (swa (wS ((wk f n 0 (wk0 s)).1))), .int (sbu (wS ((wk f n 0 (wk0 s)).1))), .int (sni (wS ((wk f n 0 (wk0 s)).1)))])), (28, .inl (false, 6, sce (wS ((wk f n 0 (wk0 s)).1)))), (29, .inl (false, 6, she (wS ((wk f n 0 (wk0 s)).1)))), (30, .inl (false, 6, stu (wS ((wk f n 0 (wk0 s)).1))))] := by
  intro hp
  refine E_iload_n dX6_then_0 rfl ?_
  refine E_i2l dX6_then_1 ?_
  refine E_lconst (v := 0) dX6_then_2 (by decide) ?_
  refine E_ldc2 dX6_then_3 qX6_90 ?_
  refine E_callS (As := [.long (Int32.toInt64 1), .long 0, .long 6]) (l' := [.long (Int32.toInt64 1), .null, .long 0, .null, .long 6, .null]) (st := []) dX6_then_6 kX6_73 sX6_isIn MX6_isIn rfl rfl (Nat.le_of_ble_eq_true rfl) (FC.use (c_isIn (d + 5) _ _ _) rfl (L2 := [(0, .inr (6, [.ref 1, .ref 5, .ref 7, .ref 10, .ref 18, .ref 26, .ref 31, .ref 35, .ref 37, .int (nI rk)])), (1, .inr (0, [.ref 2, .ref 3, .ref 4, .int (skn s), .int (sdr s), .int (swa s), .int (sbu s), .int (sni s)])), (2, .inl (false, 6, sce s)), (3, .inl (false, 6, she s)), (4, .inl (false, 6, stu s)), (5, .inr (3, [.ref 6, .int (nI n)])), (6, .inl (false, 60, f)), (26, .inr (5, [.ref 27, .int y0, .int y1, .int y2, .int y3, .int y4, .int y5])), (27, .inr (0, [.ref 28, .ref 29, .ref 30, .int (skn t), .int (sdr t), .int (swa t), .int (sbu t), .int (sni t)])), (28, .inl (false, 6, sce t)), (29, .inl (false, 6, she t)), (30, .inl (false, 6, stu t))]) rfl) (Nat.le_of_ble_eq_true rfl) (fun _ _ hq9 => E_fgo ?_ hq9)
  show E _ _ 9 [.ref 0, .int 1] [.int (b2i (inL (Int32.toInt64 1) 0 6))] (hov hp [(0, .inr (6, [.ref 1, .ref 5, .ref 7, .ref 10, .ref 18, .ref 26, .ref 31, .ref 35, .ref 37, .int (nI rk)])), (1, .inr (0, [.ref 2, .ref 3, .ref 4, .int (skn s), .int (sdr s), .int (swa s), .int (sbu s), .int (sni s)])), (2, .inl (false, 6, sce s)), (3, .inl (false, 6, she s)), (4, .inl (false, 6, stu s)), (5, .inr (3, [.ref 6, .int (nI n)])), (6, .inl (false, 60, f)), (26, .inr (5, [.ref 27, .int y0, .int y1, .int y2, .int y3, .int y4, .int y5])), (27, .inr (0, [.ref 28, .ref 29, .ref 30, .int (skn t), .int (sdr t), .int (swa t), .int (sbu t), .int (sni t)])), (28, .inl (false, 6, sce t)), (29, .inl (false, 6, she t)), (30, .inl (false, 6, stu t))]) _
  refine E_if_ne (tgt := 15) dX6_then_9 (by decide) (fun _ => ?_) (fun c => (b2i_x1 (by decide) c).elim)
  refine E_aload_n dX6_then_15 rfl ?_
  refine E_get dX6_then_16 fX6_43 (by decide) rfl rfl ?_
  refine E_aload_n dX6_then_19 rfl ?_
  refine E_get dX6_then_20 fX6_19 (by decide) rfl rfl ?_
  refine E_aload_n dX6_then_23 rfl ?_
  refine E_get dX6_then_24 fX6_12 (by decide) rfl rfl ?_
  refine E_callV (As := [.ref 5, .ref 1]) (l' := [.ref 26, .ref 5, .ref 1, .null, .null, .null, .null, .null, .null]) (st := []) dX6_then_27 kX6_118 iX5_tryOut vX5_tryOut (by decide) rfl rfl MX5_tryOut rfl rfl (Nat.le_of_ble_eq_true rfl) (FC.use (c_tryOut_ok d f n hn t s hA y0 y1 y2 y3 y4 y5 hf) rfl (L2 := [(0, .inr (6, [.ref 1, .ref 5, .ref 7, .ref 10, .ref 18, .ref 26, .ref 31, .ref 35, .ref 37, .int (nI rk)])), (1, .inr (0, [.ref 2, .ref 3, .ref 4, .int (skn s), .int (sdr s), .int (swa s), .int (sbu s), .int (sni s)])), (2, .inl (false, 6, sce s)), (3, .inl (false, 6, she s)), (4, .inl (false, 6, stu s)), (5, .inr (3, [.ref 6, .int (nI n)])), (6, .inl (false, 60, f)), (26, .inr (5, [.ref 27, .int (nI (wA ((wk f n 0 (wk0 s)).1))), .int (stA (wk f n 0 (wk0 s))), .int (stW (wk f n 0 (wk0 s))), .int (wF ((wk f n 0 (wk0 s)).1)), .int (wG ((wk f n 0 (wk0 s)).1)), .int (wH ((wk f n 0 (wk0 s)).1))])), (27, .inr (0, [.ref 28, .ref 29, .ref 30, .int (skn (wS ((wk f n 0 (wk0 s)).1))), .int (sdr (wS ((wk f n 0 (wk0 s)).1))), .int (swa (wS ((wk f n 0 (wk0 s)).1))), .int (sbu (wS ((wk f n 0 (wk0 s)).1))), .int (sni (wS ((wk f n 0 (wk0 s)).1)))])), (28, .inl (false, 6, sce (wS ((wk f n 0 (wk0 s)).1)))), (29, .inl (false, 6, she (wS ((wk f n 0 (wk0 s)).1)))), (30, .inl (false, 6, stu (wS ((wk f n 0 (wk0 s)).1))))]) rfl) (Nat.le_of_ble_eq_true rfl) (fun _ _ hq9 => E_fgo ?_ hq9)
  show E _ _ 30 [.ref 0, .int 1] [.int (b2i (decide ((wk f n 0 (wk0 s)).2 = 0)))] (hov hp [(0, .inr (6, [.ref 1, .ref 5, .ref 7, .ref 10, .ref 18, .ref 26, .ref 31, .ref 35, .ref 37, .int (nI rk)])), (1, .inr (0, [.ref 2, .ref 3, .ref 4, .int (skn s), .int (sdr s), .int (swa s), .int (sbu s), .int (sni s)])), (2, .inl (false, 6, sce s)), (3, .inl (false, 6, she s)), (4, .inl (false, 6, stu s)), (5, .inr (3, [.ref 6, .int (nI n)])), (6, .inl (false, 60, f)), (26, .inr (5, [.ref 27, .int (nI (wA ((wk f n 0 (wk0 s)).1))), .int (stA (wk f n 0 (wk0 s))), .int (stW (wk f n 0 (wk0 s))), .int (wF ((wk f n 0 (wk0 s)).1)), .int (wG ((wk f n 0 (wk0 s)).1)), .int (wH ((wk f n 0 (wk0 s)).1))])), (27, .inr (0, [.ref 28, .ref 29, .ref 30, .int (skn (wS ((wk f n 0 (wk0 s)).1))), .int (sdr (wS ((wk f n 0 (wk0 s)).1))), .int (swa (wS ((wk f n 0 (wk0 s)).1))), .int (sbu (wS ((wk f n 0 (wk0 s)).1))), .int (sni (wS ((wk f n 0 (wk0 s)).1)))])), (28, .inl (false, 6, sce (wS ((wk f n 0 (wk0 s)).1)))), (29, .inl (false, 6, she (wS ((wk f n 0 (wk0 s)).1)))), (30, .inl (false, 6, stu (wS ((wk f n 0 (wk0 s)).1))))]) _
  refine E_if_ne (tgt := 36) dX6_then_30 (by decide) (fun _ => ?_) (fun c => (b2i_x1 hr c).elim)
  refine E_iload_n dX6_then_36 rfl ?_
  refine E_tableIn (off := 50) (tgt := 87) dX6_then_37 (by decide) (by decide) (by decide) (by decide) ?_
  refine E_aload_n dX6_then_87 rfl ?_
  refine E_get dX6_then_88 fX6_43 (by decide) rfl rfl ?_
  refine E_get dX6_then_91 fX6_128 (by decide) rfl rfl ?_
  refine E_get dX6_then_94 fX6_149 (by decide) rfl rfl ?_
  exact E_iretf dX6_then_97 rfl rfl rfl rfl

set_option maxHeartbeats 4000000 in
set_option maxRecDepth 20000 in
theorem t_then_2 (d : Nat) (rk : Nat) (f : Nat → Int32) (n : Nat) (hn : n ≤ 60) (t s : CS) (hA : Agr t s) (y0 y1 y2 y3 y4 y5 : Int32) (hf : flt f n 0 false = -6) (hr : decide ((wk f n 0 (wk0 s)).2 = 0) = true) : FC YX6_then (d + 6) [.ref 0, .int 2] [(0, .inr (6, [.ref 1, .ref 5, .ref 7, .ref 10, .ref 18, .ref 26, .ref 31, .ref 35, .ref 37, .int (nI rk)])), (1, .inr (0, [.ref 2, .ref 3, .ref 4, .int (skn s), .int (sdr s), .int (swa s), .int (sbu s), .int (sni s)])), (2, .inl (false, 6, sce s)), (3, .inl (false, 6, she s)), (4, .inl (false, 6, stu s)), (5, .inr (3, [.ref 6, .int (nI n)])), (6, .inl (false, 60, f)), (26, .inr (5, [.ref 27, .int y0, .int y1, .int y2, .int y3, .int y4, .int y5])), (27, .inr (0, [.ref 28, .ref 29, .ref 30, .int (skn t), .int (sdr t), .int (swa t), .int (sbu t), .int (sni t)])), (28, .inl (false, 6, sce t)), (29, .inl (false, 6, she t)), (30, .inl (false, 6, stu t))] (some (.int (swa (wS (wk f n 0 (wk0 s)).1)))) [(0, .inr (6, [.ref 1, .ref 5, .ref 7, .ref 10, .ref 18, .ref 26, .ref 31, .ref 35, .ref 37, .int (nI rk)])), (1, .inr (0, [.ref 2, .ref 3, .ref 4, .int (skn s), .int (sdr s), .int (swa s), .int (sbu s), .int (sni s)])), (2, .inl (false, 6, sce s)), (3, .inl (false, 6, she s)), (4, .inl (false, 6, stu s)), (5, .inr (3, [.ref 6, .int (nI n)])), (6, .inl (false, 60, f)), (26, .inr (5, [.ref 27, .int (nI (wA ((wk f n 0 (wk0 s)).1))), .int (stA (wk f n 0 (wk0 s))), .int (stW (wk f n 0 (wk0 s))), .int (wF ((wk f n 0 (wk0 s)).1)), .int (wG ((wk f n 0 (wk0 s)).1)), .int (wH ((wk f n 0 (wk0 s)).1))])), (27, .inr (0, [.ref 28, .ref 29, .ref 30, .int (skn (wS ((wk f n 0 (wk0 s)).1))), .int (sdr (wS ((wk f n 0 (wk0 s)).1))), .int (swa (wS ((wk f n 0 (wk0 s)).1))), .int (sbu (wS ((wk f n 0 (wk0 s)).1))), .int (sni (wS ((wk f n 0 (wk0 s)).1)))])), (28, .inl (false, 6, sce (wS ((wk f n 0 (wk0 s)).1)))), (29, .inl (false, 6, she (wS ((wk f n 0 (wk0 s)).1)))), (30, .inl (false, 6, stu (wS ((wk f n 0 (wk0 s)).1))))] := by
  intro hp
  refine E_iload_n dX6_then_0 rfl ?_
  refine E_i2l dX6_then_1 ?_
  refine E_lconst (v := 0) dX6_then_2 (by decide) ?_
  refine E_ldc2 dX6_then_3 qX6_90 ?_
  refine E_callS (As := [.long (Int32.toInt64 2), .long 0, .long 6]) (l' := [.long (Int32.toInt64 2), .null, .long 0, .null, .long 6, .null]) (st := []) dX6_then_6 kX6_73 sX6_isIn MX6_isIn rfl rfl (Nat.le_of_ble_eq_true rfl) (FC.use (c_isIn (d + 5) _ _ _) rfl (L2 := [(0, .inr (6, [.ref 1, .ref 5, .ref 7, .ref 10, .ref 18, .ref 26, .ref 31, .ref 35, .ref 37, .int (nI rk)])), (1, .inr (0, [.ref 2, .ref 3, .ref 4, .int (skn s), .int (sdr s), .int (swa s), .int (sbu s), .int (sni s)])), (2, .inl (false, 6, sce s)), (3, .inl (false, 6, she s)), (4, .inl (false, 6, stu s)), (5, .inr (3, [.ref 6, .int (nI n)])), (6, .inl (false, 60, f)), (26, .inr (5, [.ref 27, .int y0, .int y1, .int y2, .int y3, .int y4, .int y5])), (27, .inr (0, [.ref 28, .ref 29, .ref 30, .int (skn t), .int (sdr t), .int (swa t), .int (sbu t), .int (sni t)])), (28, .inl (false, 6, sce t)), (29, .inl (false, 6, she t)), (30, .inl (false, 6, stu t))]) rfl) (Nat.le_of_ble_eq_true rfl) (fun _ _ hq9 => E_fgo ?_ hq9)
  show E _ _ 9 [.ref 0, .int 2] [.int (b2i (inL (Int32.toInt64 2) 0 6))] (hov hp [(0, .inr (6, [.ref 1, .ref 5, .ref 7, .ref 10, .ref 18, .ref 26, .ref 31, .ref 35, .ref 37, .int (nI rk)])), (1, .inr (0, [.ref 2, .ref 3, .ref 4, .int (skn s), .int (sdr s), .int (swa s), .int (sbu s), .int (sni s)])), (2, .inl (false, 6, sce s)), (3, .inl (false, 6, she s)), (4, .inl (false, 6, stu s)), (5, .inr (3, [.ref 6, .int (nI n)])), (6, .inl (false, 60, f)), (26, .inr (5, [.ref 27, .int y0, .int y1, .int y2, .int y3, .int y4, .int y5])), (27, .inr (0, [.ref 28, .ref 29, .ref 30, .int (skn t), .int (sdr t), .int (swa t), .int (sbu t), .int (sni t)])), (28, .inl (false, 6, sce t)), (29, .inl (false, 6, she t)), (30, .inl (false, 6, stu t))]) _
  refine E_if_ne (tgt := 15) dX6_then_9 (by decide) (fun _ => ?_) (fun c => (b2i_x1 (by decide) c).elim)
  refine E_aload_n dX6_then_15 rfl ?_
  refine E_get dX6_then_16 fX6_43 (by decide) rfl rfl ?_
  refine E_aload_n dX6_then_19 rfl ?_
  refine E_get dX6_then_20 fX6_19 (by decide) rfl rfl ?_
  refine E_aload_n dX6_then_23 rfl ?_
  refine E_get dX6_then_24 fX6_12 (by decide) rfl rfl ?_
  refine E_callV (As := [.ref 5, .ref 1]) (l' := [.ref 26, .ref 5, .ref 1, .null, .null, .null, .null, .null, .null]) (st := []) dX6_then_27 kX6_118 iX5_tryOut vX5_tryOut (by decide) rfl rfl MX5_tryOut rfl rfl (Nat.le_of_ble_eq_true rfl) (FC.use (c_tryOut_ok d f n hn t s hA y0 y1 y2 y3 y4 y5 hf) rfl (L2 := [(0, .inr (6, [.ref 1, .ref 5, .ref 7, .ref 10, .ref 18, .ref 26, .ref 31, .ref 35, .ref 37, .int (nI rk)])), (1, .inr (0, [.ref 2, .ref 3, .ref 4, .int (skn s), .int (sdr s), .int (swa s), .int (sbu s), .int (sni s)])), (2, .inl (false, 6, sce s)), (3, .inl (false, 6, she s)), (4, .inl (false, 6, stu s)), (5, .inr (3, [.ref 6, .int (nI n)])), (6, .inl (false, 60, f)), (26, .inr (5, [.ref 27, .int (nI (wA ((wk f n 0 (wk0 s)).1))), .int (stA (wk f n 0 (wk0 s))), .int (stW (wk f n 0 (wk0 s))), .int (wF ((wk f n 0 (wk0 s)).1)), .int (wG ((wk f n 0 (wk0 s)).1)), .int (wH ((wk f n 0 (wk0 s)).1))])), (27, .inr (0, [.ref 28, .ref 29, .ref 30, .int (skn (wS ((wk f n 0 (wk0 s)).1))), .int (sdr (wS ((wk f n 0 (wk0 s)).1))), .int (swa (wS ((wk f n 0 (wk0 s)).1))), .int (sbu (wS ((wk f n 0 (wk0 s)).1))), .int (sni (wS ((wk f n 0 (wk0 s)).1)))])), (28, .inl (false, 6, sce (wS ((wk f n 0 (wk0 s)).1)))), (29, .inl (false, 6, she (wS ((wk f n 0 (wk0 s)).1)))), (30, .inl (false, 6, stu (wS ((wk f n 0 (wk0 s)).1))))]) rfl) (Nat.le_of_ble_eq_true rfl) (fun _ _ hq9 => E_fgo ?_ hq9)
  show E _ _ 30 [.ref 0, .int 2] [.int (b2i (decide ((wk f n 0 (wk0 s)).2 = 0)))] (hov hp [(0, .inr (6, [.ref 1, .ref 5, .ref 7, .ref 10, .ref 18, .ref 26, .ref 31, .ref 35, .ref 37, .int (nI rk)])), (1, .inr (0, [.ref 2, .ref 3, .ref 4, .int (skn s), .int (sdr s), .int (swa s), .int (sbu s), .int (sni s)])), (2, .inl (false, 6, sce s)), (3, .inl (false, 6, she s)), (4, .inl (false, 6, stu s)), (5, .inr (3, [.ref 6, .int (nI n)])), (6, .inl (false, 60, f)), (26, .inr (5, [.ref 27, .int (nI (wA ((wk f n 0 (wk0 s)).1))), .int (stA (wk f n 0 (wk0 s))), .int (stW (wk f n 0 (wk0 s))), .int (wF ((wk f n 0 (wk0 s)).1)), .int (wG ((wk f n 0 (wk0 s)).1)), .int (wH ((wk f n 0 (wk0 s)).1))])), (27, .inr (0, [.ref 28, .ref 29, .ref 30, .int (skn (wS ((wk f n 0 (wk0 s)).1))), .int (sdr (wS ((wk f n 0 (wk0 s)).1))), .int (swa (wS ((wk f n 0 (wk0 s)).1))), .int (sbu (wS ((wk f n 0 (wk0 s)).1))), .int (sni (wS ((wk f n 0 (wk0 s)).1)))])), (28, .inl (false, 6, sce (wS ((wk f n 0 (wk0 s)).1)))), (29, .inl (false, 6, she (wS ((wk f n 0 (wk0 s)).1)))), (30, .inl (false, 6, stu (wS ((wk f n 0 (wk0 s)).1))))]) _
  refine E_if_ne (tgt := 36) dX6_then_30 (by decide) (fun _ => ?_) (fun c => (b2i_x1 hr c).elim)
  refine E_iload_n dX6_then_36 rfl ?_
  refine E_tableIn (off := 61) (tgt := 98) dX6_then_37 (by decide) (by decide) (by decide) (by decide) ?_
  refine E_aload_n dX6_then_98 rfl ?_
  refine E_get dX6_then_99 fX6_43 (by decide) rfl rfl ?_
  refine E_get dX6_then_102 fX6_128 (by decide) rfl rfl ?_
  refine E_get dX6_then_105 fX6_92 (by decide) rfl rfl ?_
  exact E_iretf dX6_then_108 rfl rfl rfl rfl

set_option maxHeartbeats 4000000 in
set_option maxRecDepth 20000 in
theorem t_then_3 (d : Nat) (rk : Nat) (f : Nat → Int32) (n : Nat) (hn : n ≤ 60) (t s : CS) (hA : Agr t s) (y0 y1 y2 y3 y4 y5 : Int32) (hf : flt f n 0 false = -6) (hr : decide ((wk f n 0 (wk0 s)).2 = 0) = true) : FC YX6_then (d + 6) [.ref 0, .int 3] [(0, .inr (6, [.ref 1, .ref 5, .ref 7, .ref 10, .ref 18, .ref 26, .ref 31, .ref 35, .ref 37, .int (nI rk)])), (1, .inr (0, [.ref 2, .ref 3, .ref 4, .int (skn s), .int (sdr s), .int (swa s), .int (sbu s), .int (sni s)])), (2, .inl (false, 6, sce s)), (3, .inl (false, 6, she s)), (4, .inl (false, 6, stu s)), (5, .inr (3, [.ref 6, .int (nI n)])), (6, .inl (false, 60, f)), (26, .inr (5, [.ref 27, .int y0, .int y1, .int y2, .int y3, .int y4, .int y5])), (27, .inr (0, [.ref 28, .ref 29, .ref 30, .int (skn t), .int (sdr t), .int (swa t), .int (sbu t), .int (sni t)])), (28, .inl (false, 6, sce t)), (29, .inl (false, 6, she t)), (30, .inl (false, 6, stu t))] (some (.int (wF (wk f n 0 (wk0 s)).1))) [(0, .inr (6, [.ref 1, .ref 5, .ref 7, .ref 10, .ref 18, .ref 26, .ref 31, .ref 35, .ref 37, .int (nI rk)])), (1, .inr (0, [.ref 2, .ref 3, .ref 4, .int (skn s), .int (sdr s), .int (swa s), .int (sbu s), .int (sni s)])), (2, .inl (false, 6, sce s)), (3, .inl (false, 6, she s)), (4, .inl (false, 6, stu s)), (5, .inr (3, [.ref 6, .int (nI n)])), (6, .inl (false, 60, f)), (26, .inr (5, [.ref 27, .int (nI (wA ((wk f n 0 (wk0 s)).1))), .int (stA (wk f n 0 (wk0 s))), .int (stW (wk f n 0 (wk0 s))), .int (wF ((wk f n 0 (wk0 s)).1)), .int (wG ((wk f n 0 (wk0 s)).1)), .int (wH ((wk f n 0 (wk0 s)).1))])), (27, .inr (0, [.ref 28, .ref 29, .ref 30, .int (skn (wS ((wk f n 0 (wk0 s)).1))), .int (sdr (wS ((wk f n 0 (wk0 s)).1))), .int (swa (wS ((wk f n 0 (wk0 s)).1))), .int (sbu (wS ((wk f n 0 (wk0 s)).1))), .int (sni (wS ((wk f n 0 (wk0 s)).1)))])), (28, .inl (false, 6, sce (wS ((wk f n 0 (wk0 s)).1)))), (29, .inl (false, 6, she (wS ((wk f n 0 (wk0 s)).1)))), (30, .inl (false, 6, stu (wS ((wk f n 0 (wk0 s)).1))))] := by
  intro hp
  refine E_iload_n dX6_then_0 rfl ?_
  refine E_i2l dX6_then_1 ?_
  refine E_lconst (v := 0) dX6_then_2 (by decide) ?_
  refine E_ldc2 dX6_then_3 qX6_90 ?_
  refine E_callS (As := [.long (Int32.toInt64 3), .long 0, .long 6]) (l' := [.long (Int32.toInt64 3), .null, .long 0, .null, .long 6, .null]) (st := []) dX6_then_6 kX6_73 sX6_isIn MX6_isIn rfl rfl (Nat.le_of_ble_eq_true rfl) (FC.use (c_isIn (d + 5) _ _ _) rfl (L2 := [(0, .inr (6, [.ref 1, .ref 5, .ref 7, .ref 10, .ref 18, .ref 26, .ref 31, .ref 35, .ref 37, .int (nI rk)])), (1, .inr (0, [.ref 2, .ref 3, .ref 4, .int (skn s), .int (sdr s), .int (swa s), .int (sbu s), .int (sni s)])), (2, .inl (false, 6, sce s)), (3, .inl (false, 6, she s)), (4, .inl (false, 6, stu s)), (5, .inr (3, [.ref 6, .int (nI n)])), (6, .inl (false, 60, f)), (26, .inr (5, [.ref 27, .int y0, .int y1, .int y2, .int y3, .int y4, .int y5])), (27, .inr (0, [.ref 28, .ref 29, .ref 30, .int (skn t), .int (sdr t), .int (swa t), .int (sbu t), .int (sni t)])), (28, .inl (false, 6, sce t)), (29, .inl (false, 6, she t)), (30, .inl (false, 6, stu t))]) rfl) (Nat.le_of_ble_eq_true rfl) (fun _ _ hq9 => E_fgo ?_ hq9)
  show E _ _ 9 [.ref 0, .int 3] [.int (b2i (inL (Int32.toInt64 3) 0 6))] (hov hp [(0, .inr (6, [.ref 1, .ref 5, .ref 7, .ref 10, .ref 18, .ref 26, .ref 31, .ref 35, .ref 37, .int (nI rk)])), (1, .inr (0, [.ref 2, .ref 3, .ref 4, .int (skn s), .int (sdr s), .int (swa s), .int (sbu s), .int (sni s)])), (2, .inl (false, 6, sce s)), (3, .inl (false, 6, she s)), (4, .inl (false, 6, stu s)), (5, .inr (3, [.ref 6, .int (nI n)])), (6, .inl (false, 60, f)), (26, .inr (5, [.ref 27, .int y0, .int y1, .int y2, .int y3, .int y4, .int y5])), (27, .inr (0, [.ref 28, .ref 29, .ref 30, .int (skn t), .int (sdr t), .int (swa t), .int (sbu t), .int (sni t)])), (28, .inl (false, 6, sce t)), (29, .inl (false, 6, she t)), (30, .inl (false, 6, stu t))]) _
  refine E_if_ne (tgt := 15) dX6_then_9 (by decide) (fun _ => ?_) (fun c => (b2i_x1 (by decide) c).elim)
  refine E_aload_n dX6_then_15 rfl ?_
  refine E_get dX6_then_16 fX6_43 (by decide) rfl rfl ?_
  refine E_aload_n dX6_then_19 rfl ?_
  refine E_get dX6_then_20 fX6_19 (by decide) rfl rfl ?_
  refine E_aload_n dX6_then_23 rfl ?_
  refine E_get dX6_then_24 fX6_12 (by decide) rfl rfl ?_
  refine E_callV (As := [.ref 5, .ref 1]) (l' := [.ref 26, .ref 5, .ref 1, .null, .null, .null, .null, .null, .null]) (st := []) dX6_then_27 kX6_118 iX5_tryOut vX5_tryOut (by decide) rfl rfl MX5_tryOut rfl rfl (Nat.le_of_ble_eq_true rfl) (FC.use (c_tryOut_ok d f n hn t s hA y0 y1 y2 y3 y4 y5 hf) rfl (L2 := [(0, .inr (6, [.ref 1, .ref 5, .ref 7, .ref 10, .ref 18, .ref 26, .ref 31, .ref 35, .ref 37, .int (nI rk)])), (1, .inr (0, [.ref 2, .ref 3, .ref 4, .int (skn s), .int (sdr s), .int (swa s), .int (sbu s), .int (sni s)])), (2, .inl (false, 6, sce s)), (3, .inl (false, 6, she s)), (4, .inl (false, 6, stu s)), (5, .inr (3, [.ref 6, .int (nI n)])), (6, .inl (false, 60, f)), (26, .inr (5, [.ref 27, .int (nI (wA ((wk f n 0 (wk0 s)).1))), .int (stA (wk f n 0 (wk0 s))), .int (stW (wk f n 0 (wk0 s))), .int (wF ((wk f n 0 (wk0 s)).1)), .int (wG ((wk f n 0 (wk0 s)).1)), .int (wH ((wk f n 0 (wk0 s)).1))])), (27, .inr (0, [.ref 28, .ref 29, .ref 30, .int (skn (wS ((wk f n 0 (wk0 s)).1))), .int (sdr (wS ((wk f n 0 (wk0 s)).1))), .int (swa (wS ((wk f n 0 (wk0 s)).1))), .int (sbu (wS ((wk f n 0 (wk0 s)).1))), .int (sni (wS ((wk f n 0 (wk0 s)).1)))])), (28, .inl (false, 6, sce (wS ((wk f n 0 (wk0 s)).1)))), (29, .inl (false, 6, she (wS ((wk f n 0 (wk0 s)).1)))), (30, .inl (false, 6, stu (wS ((wk f n 0 (wk0 s)).1))))]) rfl) (Nat.le_of_ble_eq_true rfl) (fun _ _ hq9 => E_fgo ?_ hq9)
  show E _ _ 30 [.ref 0, .int 3] [.int (b2i (decide ((wk f n 0 (wk0 s)).2 = 0)))] (hov hp [(0, .inr (6, [.ref 1, .ref 5, .ref 7, .ref 10, .ref 18, .ref 26, .ref 31, .ref 35, .ref 37, .int (nI rk)])), (1, .inr (0, [.ref 2, .ref 3, .ref 4, .int (skn s), .int (sdr s), .int (swa s), .int (sbu s), .int (sni s)])), (2, .inl (false, 6, sce s)), (3, .inl (false, 6, she s)), (4, .inl (false, 6, stu s)), (5, .inr (3, [.ref 6, .int (nI n)])), (6, .inl (false, 60, f)), (26, .inr (5, [.ref 27, .int (nI (wA ((wk f n 0 (wk0 s)).1))), .int (stA (wk f n 0 (wk0 s))), .int (stW (wk f n 0 (wk0 s))), .int (wF ((wk f n 0 (wk0 s)).1)), .int (wG ((wk f n 0 (wk0 s)).1)), .int (wH ((wk f n 0 (wk0 s)).1))])), (27, .inr (0, [.ref 28, .ref 29, .ref 30, .int (skn (wS ((wk f n 0 (wk0 s)).1))), .int (sdr (wS ((wk f n 0 (wk0 s)).1))), .int (swa (wS ((wk f n 0 (wk0 s)).1))), .int (sbu (wS ((wk f n 0 (wk0 s)).1))), .int (sni (wS ((wk f n 0 (wk0 s)).1)))])), (28, .inl (false, 6, sce (wS ((wk f n 0 (wk0 s)).1)))), (29, .inl (false, 6, she (wS ((wk f n 0 (wk0 s)).1)))), (30, .inl (false, 6, stu (wS ((wk f n 0 (wk0 s)).1))))]) _
  refine E_if_ne (tgt := 36) dX6_then_30 (by decide) (fun _ => ?_) (fun c => (b2i_x1 hr c).elim)
  refine E_iload_n dX6_then_36 rfl ?_
  refine E_tableIn (off := 72) (tgt := 109) dX6_then_37 (by decide) (by decide) (by decide) (by decide) ?_
  refine E_aload_n dX6_then_109 rfl ?_
  refine E_get dX6_then_110 fX6_43 (by decide) rfl rfl ?_
  refine E_get dX6_then_113 fX6_152 (by decide) rfl rfl ?_
  exact E_iretf dX6_then_116 rfl rfl rfl rfl

set_option maxHeartbeats 4000000 in
set_option maxRecDepth 20000 in
theorem t_then_4 (d : Nat) (rk : Nat) (f : Nat → Int32) (n : Nat) (hn : n ≤ 60) (t s : CS) (hA : Agr t s) (y0 y1 y2 y3 y4 y5 : Int32) (hf : flt f n 0 false = -6) (hr : decide ((wk f n 0 (wk0 s)).2 = 0) = true) : FC YX6_then (d + 6) [.ref 0, .int 4] [(0, .inr (6, [.ref 1, .ref 5, .ref 7, .ref 10, .ref 18, .ref 26, .ref 31, .ref 35, .ref 37, .int (nI rk)])), (1, .inr (0, [.ref 2, .ref 3, .ref 4, .int (skn s), .int (sdr s), .int (swa s), .int (sbu s), .int (sni s)])), (2, .inl (false, 6, sce s)), (3, .inl (false, 6, she s)), (4, .inl (false, 6, stu s)), (5, .inr (3, [.ref 6, .int (nI n)])), (6, .inl (false, 60, f)), (26, .inr (5, [.ref 27, .int y0, .int y1, .int y2, .int y3, .int y4, .int y5])), (27, .inr (0, [.ref 28, .ref 29, .ref 30, .int (skn t), .int (sdr t), .int (swa t), .int (sbu t), .int (sni t)])), (28, .inl (false, 6, sce t)), (29, .inl (false, 6, she t)), (30, .inl (false, 6, stu t))] (some (.int (sni (wS (wk f n 0 (wk0 s)).1)))) [(0, .inr (6, [.ref 1, .ref 5, .ref 7, .ref 10, .ref 18, .ref 26, .ref 31, .ref 35, .ref 37, .int (nI rk)])), (1, .inr (0, [.ref 2, .ref 3, .ref 4, .int (skn s), .int (sdr s), .int (swa s), .int (sbu s), .int (sni s)])), (2, .inl (false, 6, sce s)), (3, .inl (false, 6, she s)), (4, .inl (false, 6, stu s)), (5, .inr (3, [.ref 6, .int (nI n)])), (6, .inl (false, 60, f)), (26, .inr (5, [.ref 27, .int (nI (wA ((wk f n 0 (wk0 s)).1))), .int (stA (wk f n 0 (wk0 s))), .int (stW (wk f n 0 (wk0 s))), .int (wF ((wk f n 0 (wk0 s)).1)), .int (wG ((wk f n 0 (wk0 s)).1)), .int (wH ((wk f n 0 (wk0 s)).1))])), (27, .inr (0, [.ref 28, .ref 29, .ref 30, .int (skn (wS ((wk f n 0 (wk0 s)).1))), .int (sdr (wS ((wk f n 0 (wk0 s)).1))), .int (swa (wS ((wk f n 0 (wk0 s)).1))), .int (sbu (wS ((wk f n 0 (wk0 s)).1))), .int (sni (wS ((wk f n 0 (wk0 s)).1)))])), (28, .inl (false, 6, sce (wS ((wk f n 0 (wk0 s)).1)))), (29, .inl (false, 6, she (wS ((wk f n 0 (wk0 s)).1)))), (30, .inl (false, 6, stu (wS ((wk f n 0 (wk0 s)).1))))] := by
  intro hp
  refine E_iload_n dX6_then_0 rfl ?_
  refine E_i2l dX6_then_1 ?_
  refine E_lconst (v := 0) dX6_then_2 (by decide) ?_
  refine E_ldc2 dX6_then_3 qX6_90 ?_
  refine E_callS (As := [.long (Int32.toInt64 4), .long 0, .long 6]) (l' := [.long (Int32.toInt64 4), .null, .long 0, .null, .long 6, .null]) (st := []) dX6_then_6 kX6_73 sX6_isIn MX6_isIn rfl rfl (Nat.le_of_ble_eq_true rfl) (FC.use (c_isIn (d + 5) _ _ _) rfl (L2 := [(0, .inr (6, [.ref 1, .ref 5, .ref 7, .ref 10, .ref 18, .ref 26, .ref 31, .ref 35, .ref 37, .int (nI rk)])), (1, .inr (0, [.ref 2, .ref 3, .ref 4, .int (skn s), .int (sdr s), .int (swa s), .int (sbu s), .int (sni s)])), (2, .inl (false, 6, sce s)), (3, .inl (false, 6, she s)), (4, .inl (false, 6, stu s)), (5, .inr (3, [.ref 6, .int (nI n)])), (6, .inl (false, 60, f)), (26, .inr (5, [.ref 27, .int y0, .int y1, .int y2, .int y3, .int y4, .int y5])), (27, .inr (0, [.ref 28, .ref 29, .ref 30, .int (skn t), .int (sdr t), .int (swa t), .int (sbu t), .int (sni t)])), (28, .inl (false, 6, sce t)), (29, .inl (false, 6, she t)), (30, .inl (false, 6, stu t))]) rfl) (Nat.le_of_ble_eq_true rfl) (fun _ _ hq9 => E_fgo ?_ hq9)
  show E _ _ 9 [.ref 0, .int 4] [.int (b2i (inL (Int32.toInt64 4) 0 6))] (hov hp [(0, .inr (6, [.ref 1, .ref 5, .ref 7, .ref 10, .ref 18, .ref 26, .ref 31, .ref 35, .ref 37, .int (nI rk)])), (1, .inr (0, [.ref 2, .ref 3, .ref 4, .int (skn s), .int (sdr s), .int (swa s), .int (sbu s), .int (sni s)])), (2, .inl (false, 6, sce s)), (3, .inl (false, 6, she s)), (4, .inl (false, 6, stu s)), (5, .inr (3, [.ref 6, .int (nI n)])), (6, .inl (false, 60, f)), (26, .inr (5, [.ref 27, .int y0, .int y1, .int y2, .int y3, .int y4, .int y5])), (27, .inr (0, [.ref 28, .ref 29, .ref 30, .int (skn t), .int (sdr t), .int (swa t), .int (sbu t), .int (sni t)])), (28, .inl (false, 6, sce t)), (29, .inl (false, 6, she t)), (30, .inl (false, 6, stu t))]) _
  refine E_if_ne (tgt := 15) dX6_then_9 (by decide) (fun _ => ?_) (fun c => (b2i_x1 (by decide) c).elim)
  refine E_aload_n dX6_then_15 rfl ?_
  refine E_get dX6_then_16 fX6_43 (by decide) rfl rfl ?_
  refine E_aload_n dX6_then_19 rfl ?_
  refine E_get dX6_then_20 fX6_19 (by decide) rfl rfl ?_
  refine E_aload_n dX6_then_23 rfl ?_
  refine E_get dX6_then_24 fX6_12 (by decide) rfl rfl ?_
  refine E_callV (As := [.ref 5, .ref 1]) (l' := [.ref 26, .ref 5, .ref 1, .null, .null, .null, .null, .null, .null]) (st := []) dX6_then_27 kX6_118 iX5_tryOut vX5_tryOut (by decide) rfl rfl MX5_tryOut rfl rfl (Nat.le_of_ble_eq_true rfl) (FC.use (c_tryOut_ok d f n hn t s hA y0 y1 y2 y3 y4 y5 hf) rfl (L2 := [(0, .inr (6, [.ref 1, .ref 5, .ref 7, .ref 10, .ref 18, .ref 26, .ref 31, .ref 35, .ref 37, .int (nI rk)])), (1, .inr (0, [.ref 2, .ref 3, .ref 4, .int (skn s), .int (sdr s), .int (swa s), .int (sbu s), .int (sni s)])), (2, .inl (false, 6, sce s)), (3, .inl (false, 6, she s)), (4, .inl (false, 6, stu s)), (5, .inr (3, [.ref 6, .int (nI n)])), (6, .inl (false, 60, f)), (26, .inr (5, [.ref 27, .int (nI (wA ((wk f n 0 (wk0 s)).1))), .int (stA (wk f n 0 (wk0 s))), .int (stW (wk f n 0 (wk0 s))), .int (wF ((wk f n 0 (wk0 s)).1)), .int (wG ((wk f n 0 (wk0 s)).1)), .int (wH ((wk f n 0 (wk0 s)).1))])), (27, .inr (0, [.ref 28, .ref 29, .ref 30, .int (skn (wS ((wk f n 0 (wk0 s)).1))), .int (sdr (wS ((wk f n 0 (wk0 s)).1))), .int (swa (wS ((wk f n 0 (wk0 s)).1))), .int (sbu (wS ((wk f n 0 (wk0 s)).1))), .int (sni (wS ((wk f n 0 (wk0 s)).1)))])), (28, .inl (false, 6, sce (wS ((wk f n 0 (wk0 s)).1)))), (29, .inl (false, 6, she (wS ((wk f n 0 (wk0 s)).1)))), (30, .inl (false, 6, stu (wS ((wk f n 0 (wk0 s)).1))))]) rfl) (Nat.le_of_ble_eq_true rfl) (fun _ _ hq9 => E_fgo ?_ hq9)
  show E _ _ 30 [.ref 0, .int 4] [.int (b2i (decide ((wk f n 0 (wk0 s)).2 = 0)))] (hov hp [(0, .inr (6, [.ref 1, .ref 5, .ref 7, .ref 10, .ref 18, .ref 26, .ref 31, .ref 35, .ref 37, .int (nI rk)])), (1, .inr (0, [.ref 2, .ref 3, .ref 4, .int (skn s), .int (sdr s), .int (swa s), .int (sbu s), .int (sni s)])), (2, .inl (false, 6, sce s)), (3, .inl (false, 6, she s)), (4, .inl (false, 6, stu s)), (5, .inr (3, [.ref 6, .int (nI n)])), (6, .inl (false, 60, f)), (26, .inr (5, [.ref 27, .int (nI (wA ((wk f n 0 (wk0 s)).1))), .int (stA (wk f n 0 (wk0 s))), .int (stW (wk f n 0 (wk0 s))), .int (wF ((wk f n 0 (wk0 s)).1)), .int (wG ((wk f n 0 (wk0 s)).1)), .int (wH ((wk f n 0 (wk0 s)).1))])), (27, .inr (0, [.ref 28, .ref 29, .ref 30, .int (skn (wS ((wk f n 0 (wk0 s)).1))), .int (sdr (wS ((wk f n 0 (wk0 s)).1))), .int (swa (wS ((wk f n 0 (wk0 s)).1))), .int (sbu (wS ((wk f n 0 (wk0 s)).1))), .int (sni (wS ((wk f n 0 (wk0 s)).1)))])), (28, .inl (false, 6, sce (wS ((wk f n 0 (wk0 s)).1)))), (29, .inl (false, 6, she (wS ((wk f n 0 (wk0 s)).1)))), (30, .inl (false, 6, stu (wS ((wk f n 0 (wk0 s)).1))))]) _
  refine E_if_ne (tgt := 36) dX6_then_30 (by decide) (fun _ => ?_) (fun c => (b2i_x1 hr c).elim)
  refine E_iload_n dX6_then_36 rfl ?_
  refine E_tableIn (off := 80) (tgt := 117) dX6_then_37 (by decide) (by decide) (by decide) (by decide) ?_
  refine E_aload_n dX6_then_117 rfl ?_
  refine E_get dX6_then_118 fX6_43 (by decide) rfl rfl ?_
  refine E_get dX6_then_121 fX6_128 (by decide) rfl rfl ?_
  refine E_get dX6_then_124 fX6_155 (by decide) rfl rfl ?_
  exact E_iretf dX6_then_127 rfl rfl rfl rfl

set_option maxHeartbeats 4000000 in
set_option maxRecDepth 20000 in
theorem t_then_5 (d : Nat) (rk : Nat) (f : Nat → Int32) (n : Nat) (hn : n ≤ 60) (t s : CS) (hA : Agr t s) (y0 y1 y2 y3 y4 y5 : Int32) (hf : flt f n 0 false = -6) (hr : decide ((wk f n 0 (wk0 s)).2 = 0) = true) : FC YX6_then (d + 6) [.ref 0, .int 5] [(0, .inr (6, [.ref 1, .ref 5, .ref 7, .ref 10, .ref 18, .ref 26, .ref 31, .ref 35, .ref 37, .int (nI rk)])), (1, .inr (0, [.ref 2, .ref 3, .ref 4, .int (skn s), .int (sdr s), .int (swa s), .int (sbu s), .int (sni s)])), (2, .inl (false, 6, sce s)), (3, .inl (false, 6, she s)), (4, .inl (false, 6, stu s)), (5, .inr (3, [.ref 6, .int (nI n)])), (6, .inl (false, 60, f)), (26, .inr (5, [.ref 27, .int y0, .int y1, .int y2, .int y3, .int y4, .int y5])), (27, .inr (0, [.ref 28, .ref 29, .ref 30, .int (skn t), .int (sdr t), .int (swa t), .int (sbu t), .int (sni t)])), (28, .inl (false, 6, sce t)), (29, .inl (false, 6, she t)), (30, .inl (false, 6, stu t))] (some (.int (wG (wk f n 0 (wk0 s)).1))) [(0, .inr (6, [.ref 1, .ref 5, .ref 7, .ref 10, .ref 18, .ref 26, .ref 31, .ref 35, .ref 37, .int (nI rk)])), (1, .inr (0, [.ref 2, .ref 3, .ref 4, .int (skn s), .int (sdr s), .int (swa s), .int (sbu s), .int (sni s)])), (2, .inl (false, 6, sce s)), (3, .inl (false, 6, she s)), (4, .inl (false, 6, stu s)), (5, .inr (3, [.ref 6, .int (nI n)])), (6, .inl (false, 60, f)), (26, .inr (5, [.ref 27, .int (nI (wA ((wk f n 0 (wk0 s)).1))), .int (stA (wk f n 0 (wk0 s))), .int (stW (wk f n 0 (wk0 s))), .int (wF ((wk f n 0 (wk0 s)).1)), .int (wG ((wk f n 0 (wk0 s)).1)), .int (wH ((wk f n 0 (wk0 s)).1))])), (27, .inr (0, [.ref 28, .ref 29, .ref 30, .int (skn (wS ((wk f n 0 (wk0 s)).1))), .int (sdr (wS ((wk f n 0 (wk0 s)).1))), .int (swa (wS ((wk f n 0 (wk0 s)).1))), .int (sbu (wS ((wk f n 0 (wk0 s)).1))), .int (sni (wS ((wk f n 0 (wk0 s)).1)))])), (28, .inl (false, 6, sce (wS ((wk f n 0 (wk0 s)).1)))), (29, .inl (false, 6, she (wS ((wk f n 0 (wk0 s)).1)))), (30, .inl (false, 6, stu (wS ((wk f n 0 (wk0 s)).1))))] := by
  intro hp
  refine E_iload_n dX6_then_0 rfl ?_
  refine E_i2l dX6_then_1 ?_
  refine E_lconst (v := 0) dX6_then_2 (by decide) ?_
  refine E_ldc2 dX6_then_3 qX6_90 ?_
  refine E_callS (As := [.long (Int32.toInt64 5), .long 0, .long 6]) (l' := [.long (Int32.toInt64 5), .null, .long 0, .null, .long 6, .null]) (st := []) dX6_then_6 kX6_73 sX6_isIn MX6_isIn rfl rfl (Nat.le_of_ble_eq_true rfl) (FC.use (c_isIn (d + 5) _ _ _) rfl (L2 := [(0, .inr (6, [.ref 1, .ref 5, .ref 7, .ref 10, .ref 18, .ref 26, .ref 31, .ref 35, .ref 37, .int (nI rk)])), (1, .inr (0, [.ref 2, .ref 3, .ref 4, .int (skn s), .int (sdr s), .int (swa s), .int (sbu s), .int (sni s)])), (2, .inl (false, 6, sce s)), (3, .inl (false, 6, she s)), (4, .inl (false, 6, stu s)), (5, .inr (3, [.ref 6, .int (nI n)])), (6, .inl (false, 60, f)), (26, .inr (5, [.ref 27, .int y0, .int y1, .int y2, .int y3, .int y4, .int y5])), (27, .inr (0, [.ref 28, .ref 29, .ref 30, .int (skn t), .int (sdr t), .int (swa t), .int (sbu t), .int (sni t)])), (28, .inl (false, 6, sce t)), (29, .inl (false, 6, she t)), (30, .inl (false, 6, stu t))]) rfl) (Nat.le_of_ble_eq_true rfl) (fun _ _ hq9 => E_fgo ?_ hq9)
  show E _ _ 9 [.ref 0, .int 5] [.int (b2i (inL (Int32.toInt64 5) 0 6))] (hov hp [(0, .inr (6, [.ref 1, .ref 5, .ref 7, .ref 10, .ref 18, .ref 26, .ref 31, .ref 35, .ref 37, .int (nI rk)])), (1, .inr (0, [.ref 2, .ref 3, .ref 4, .int (skn s), .int (sdr s), .int (swa s), .int (sbu s), .int (sni s)])), (2, .inl (false, 6, sce s)), (3, .inl (false, 6, she s)), (4, .inl (false, 6, stu s)), (5, .inr (3, [.ref 6, .int (nI n)])), (6, .inl (false, 60, f)), (26, .inr (5, [.ref 27, .int y0, .int y1, .int y2, .int y3, .int y4, .int y5])), (27, .inr (0, [.ref 28, .ref 29, .ref 30, .int (skn t), .int (sdr t), .int (swa t), .int (sbu t), .int (sni t)])), (28, .inl (false, 6, sce t)), (29, .inl (false, 6, she t)), (30, .inl (false, 6, stu t))]) _
  refine E_if_ne (tgt := 15) dX6_then_9 (by decide) (fun _ => ?_) (fun c => (b2i_x1 (by decide) c).elim)
  refine E_aload_n dX6_then_15 rfl ?_
  refine E_get dX6_then_16 fX6_43 (by decide) rfl rfl ?_
  refine E_aload_n dX6_then_19 rfl ?_
  refine E_get dX6_then_20 fX6_19 (by decide) rfl rfl ?_
  refine E_aload_n dX6_then_23 rfl ?_
  refine E_get dX6_then_24 fX6_12 (by decide) rfl rfl ?_
  refine E_callV (As := [.ref 5, .ref 1]) (l' := [.ref 26, .ref 5, .ref 1, .null, .null, .null, .null, .null, .null]) (st := []) dX6_then_27 kX6_118 iX5_tryOut vX5_tryOut (by decide) rfl rfl MX5_tryOut rfl rfl (Nat.le_of_ble_eq_true rfl) (FC.use (c_tryOut_ok d f n hn t s hA y0 y1 y2 y3 y4 y5 hf) rfl (L2 := [(0, .inr (6, [.ref 1, .ref 5, .ref 7, .ref 10, .ref 18, .ref 26, .ref 31, .ref 35, .ref 37, .int (nI rk)])), (1, .inr (0, [.ref 2, .ref 3, .ref 4, .int (skn s), .int (sdr s), .int (swa s), .int (sbu s), .int (sni s)])), (2, .inl (false, 6, sce s)), (3, .inl (false, 6, she s)), (4, .inl (false, 6, stu s)), (5, .inr (3, [.ref 6, .int (nI n)])), (6, .inl (false, 60, f)), (26, .inr (5, [.ref 27, .int (nI (wA ((wk f n 0 (wk0 s)).1))), .int (stA (wk f n 0 (wk0 s))), .int (stW (wk f n 0 (wk0 s))), .int (wF ((wk f n 0 (wk0 s)).1)), .int (wG ((wk f n 0 (wk0 s)).1)), .int (wH ((wk f n 0 (wk0 s)).1))])), (27, .inr (0, [.ref 28, .ref 29, .ref 30, .int (skn (wS ((wk f n 0 (wk0 s)).1))), .int (sdr (wS ((wk f n 0 (wk0 s)).1))), .int (swa (wS ((wk f n 0 (wk0 s)).1))), .int (sbu (wS ((wk f n 0 (wk0 s)).1))), .int (sni (wS ((wk f n 0 (wk0 s)).1)))])), (28, .inl (false, 6, sce (wS ((wk f n 0 (wk0 s)).1)))), (29, .inl (false, 6, she (wS ((wk f n 0 (wk0 s)).1)))), (30, .inl (false, 6, stu (wS ((wk f n 0 (wk0 s)).1))))]) rfl) (Nat.le_of_ble_eq_true rfl) (fun _ _ hq9 => E_fgo ?_ hq9)
  show E _ _ 30 [.ref 0, .int 5] [.int (b2i (decide ((wk f n 0 (wk0 s)).2 = 0)))] (hov hp [(0, .inr (6, [.ref 1, .ref 5, .ref 7, .ref 10, .ref 18, .ref 26, .ref 31, .ref 35, .ref 37, .int (nI rk)])), (1, .inr (0, [.ref 2, .ref 3, .ref 4, .int (skn s), .int (sdr s), .int (swa s), .int (sbu s), .int (sni s)])), (2, .inl (false, 6, sce s)), (3, .inl (false, 6, she s)), (4, .inl (false, 6, stu s)), (5, .inr (3, [.ref 6, .int (nI n)])), (6, .inl (false, 60, f)), (26, .inr (5, [.ref 27, .int (nI (wA ((wk f n 0 (wk0 s)).1))), .int (stA (wk f n 0 (wk0 s))), .int (stW (wk f n 0 (wk0 s))), .int (wF ((wk f n 0 (wk0 s)).1)), .int (wG ((wk f n 0 (wk0 s)).1)), .int (wH ((wk f n 0 (wk0 s)).1))])), (27, .inr (0, [.ref 28, .ref 29, .ref 30, .int (skn (wS ((wk f n 0 (wk0 s)).1))), .int (sdr (wS ((wk f n 0 (wk0 s)).1))), .int (swa (wS ((wk f n 0 (wk0 s)).1))), .int (sbu (wS ((wk f n 0 (wk0 s)).1))), .int (sni (wS ((wk f n 0 (wk0 s)).1)))])), (28, .inl (false, 6, sce (wS ((wk f n 0 (wk0 s)).1)))), (29, .inl (false, 6, she (wS ((wk f n 0 (wk0 s)).1)))), (30, .inl (false, 6, stu (wS ((wk f n 0 (wk0 s)).1))))]) _
  refine E_if_ne (tgt := 36) dX6_then_30 (by decide) (fun _ => ?_) (fun c => (b2i_x1 hr c).elim)
  refine E_iload_n dX6_then_36 rfl ?_
  refine E_tableIn (off := 91) (tgt := 128) dX6_then_37 (by decide) (by decide) (by decide) (by decide) ?_
  refine E_aload_n dX6_then_128 rfl ?_
  refine E_get dX6_then_129 fX6_43 (by decide) rfl rfl ?_
  refine E_get dX6_then_132 fX6_158 (by decide) rfl rfl ?_
  exact E_iretf dX6_then_135 rfl rfl rfl rfl

set_option maxHeartbeats 4000000 in
set_option maxRecDepth 20000 in
theorem t_then_6 (d : Nat) (rk : Nat) (f : Nat → Int32) (n : Nat) (hn : n ≤ 60) (t s : CS) (hA : Agr t s) (y0 y1 y2 y3 y4 y5 : Int32) (hf : flt f n 0 false = -6) (hr : decide ((wk f n 0 (wk0 s)).2 = 0) = true) : FC YX6_then (d + 6) [.ref 0, .int 6] [(0, .inr (6, [.ref 1, .ref 5, .ref 7, .ref 10, .ref 18, .ref 26, .ref 31, .ref 35, .ref 37, .int (nI rk)])), (1, .inr (0, [.ref 2, .ref 3, .ref 4, .int (skn s), .int (sdr s), .int (swa s), .int (sbu s), .int (sni s)])), (2, .inl (false, 6, sce s)), (3, .inl (false, 6, she s)), (4, .inl (false, 6, stu s)), (5, .inr (3, [.ref 6, .int (nI n)])), (6, .inl (false, 60, f)), (26, .inr (5, [.ref 27, .int y0, .int y1, .int y2, .int y3, .int y4, .int y5])), (27, .inr (0, [.ref 28, .ref 29, .ref 30, .int (skn t), .int (sdr t), .int (swa t), .int (sbu t), .int (sni t)])), (28, .inl (false, 6, sce t)), (29, .inl (false, 6, she t)), (30, .inl (false, 6, stu t))] (some (.int (wH (wk f n 0 (wk0 s)).1))) [(0, .inr (6, [.ref 1, .ref 5, .ref 7, .ref 10, .ref 18, .ref 26, .ref 31, .ref 35, .ref 37, .int (nI rk)])), (1, .inr (0, [.ref 2, .ref 3, .ref 4, .int (skn s), .int (sdr s), .int (swa s), .int (sbu s), .int (sni s)])), (2, .inl (false, 6, sce s)), (3, .inl (false, 6, she s)), (4, .inl (false, 6, stu s)), (5, .inr (3, [.ref 6, .int (nI n)])), (6, .inl (false, 60, f)), (26, .inr (5, [.ref 27, .int (nI (wA ((wk f n 0 (wk0 s)).1))), .int (stA (wk f n 0 (wk0 s))), .int (stW (wk f n 0 (wk0 s))), .int (wF ((wk f n 0 (wk0 s)).1)), .int (wG ((wk f n 0 (wk0 s)).1)), .int (wH ((wk f n 0 (wk0 s)).1))])), (27, .inr (0, [.ref 28, .ref 29, .ref 30, .int (skn (wS ((wk f n 0 (wk0 s)).1))), .int (sdr (wS ((wk f n 0 (wk0 s)).1))), .int (swa (wS ((wk f n 0 (wk0 s)).1))), .int (sbu (wS ((wk f n 0 (wk0 s)).1))), .int (sni (wS ((wk f n 0 (wk0 s)).1)))])), (28, .inl (false, 6, sce (wS ((wk f n 0 (wk0 s)).1)))), (29, .inl (false, 6, she (wS ((wk f n 0 (wk0 s)).1)))), (30, .inl (false, 6, stu (wS ((wk f n 0 (wk0 s)).1))))] := by
  intro hp
  refine E_iload_n dX6_then_0 rfl ?_
  refine E_i2l dX6_then_1 ?_
  refine E_lconst (v := 0) dX6_then_2 (by decide) ?_
  refine E_ldc2 dX6_then_3 qX6_90 ?_
  refine E_callS (As := [.long (Int32.toInt64 6), .long 0, .long 6]) (l' := [.long (Int32.toInt64 6), .null, .long 0, .null, .long 6, .null]) (st := []) dX6_then_6 kX6_73 sX6_isIn MX6_isIn rfl rfl (Nat.le_of_ble_eq_true rfl) (FC.use (c_isIn (d + 5) _ _ _) rfl (L2 := [(0, .inr (6, [.ref 1, .ref 5, .ref 7, .ref 10, .ref 18, .ref 26, .ref 31, .ref 35, .ref 37, .int (nI rk)])), (1, .inr (0, [.ref 2, .ref 3, .ref 4, .int (skn s), .int (sdr s), .int (swa s), .int (sbu s), .int (sni s)])), (2, .inl (false, 6, sce s)), (3, .inl (false, 6, she s)), (4, .inl (false, 6, stu s)), (5, .inr (3, [.ref 6, .int (nI n)])), (6, .inl (false, 60, f)), (26, .inr (5, [.ref 27, .int y0, .int y1, .int y2, .int y3, .int y4, .int y5])), (27, .inr (0, [.ref 28, .ref 29, .ref 30, .int (skn t), .int (sdr t), .int (swa t), .int (sbu t), .int (sni t)])), (28, .inl (false, 6, sce t)), (29, .inl (false, 6, she t)), (30, .inl (false, 6, stu t))]) rfl) (Nat.le_of_ble_eq_true rfl) (fun _ _ hq9 => E_fgo ?_ hq9)
  show E _ _ 9 [.ref 0, .int 6] [.int (b2i (inL (Int32.toInt64 6) 0 6))] (hov hp [(0, .inr (6, [.ref 1, .ref 5, .ref 7, .ref 10, .ref 18, .ref 26, .ref 31, .ref 35, .ref 37, .int (nI rk)])), (1, .inr (0, [.ref 2, .ref 3, .ref 4, .int (skn s), .int (sdr s), .int (swa s), .int (sbu s), .int (sni s)])), (2, .inl (false, 6, sce s)), (3, .inl (false, 6, she s)), (4, .inl (false, 6, stu s)), (5, .inr (3, [.ref 6, .int (nI n)])), (6, .inl (false, 60, f)), (26, .inr (5, [.ref 27, .int y0, .int y1, .int y2, .int y3, .int y4, .int y5])), (27, .inr (0, [.ref 28, .ref 29, .ref 30, .int (skn t), .int (sdr t), .int (swa t), .int (sbu t), .int (sni t)])), (28, .inl (false, 6, sce t)), (29, .inl (false, 6, she t)), (30, .inl (false, 6, stu t))]) _
  refine E_if_ne (tgt := 15) dX6_then_9 (by decide) (fun _ => ?_) (fun c => (b2i_x1 (by decide) c).elim)
  refine E_aload_n dX6_then_15 rfl ?_
  refine E_get dX6_then_16 fX6_43 (by decide) rfl rfl ?_
  refine E_aload_n dX6_then_19 rfl ?_
  refine E_get dX6_then_20 fX6_19 (by decide) rfl rfl ?_
  refine E_aload_n dX6_then_23 rfl ?_
  refine E_get dX6_then_24 fX6_12 (by decide) rfl rfl ?_
  refine E_callV (As := [.ref 5, .ref 1]) (l' := [.ref 26, .ref 5, .ref 1, .null, .null, .null, .null, .null, .null]) (st := []) dX6_then_27 kX6_118 iX5_tryOut vX5_tryOut (by decide) rfl rfl MX5_tryOut rfl rfl (Nat.le_of_ble_eq_true rfl) (FC.use (c_tryOut_ok d f n hn t s hA y0 y1 y2 y3 y4 y5 hf) rfl (L2 := [(0, .inr (6, [.ref 1, .ref 5, .ref 7, .ref 10, .ref 18, .ref 26, .ref 31, .ref 35, .ref 37, .int (nI rk)])), (1, .inr (0, [.ref 2, .ref 3, .ref 4, .int (skn s), .int (sdr s), .int (swa s), .int (sbu s), .int (sni s)])), (2, .inl (false, 6, sce s)), (3, .inl (false, 6, she s)), (4, .inl (false, 6, stu s)), (5, .inr (3, [.ref 6, .int (nI n)])), (6, .inl (false, 60, f)), (26, .inr (5, [.ref 27, .int (nI (wA ((wk f n 0 (wk0 s)).1))), .int (stA (wk f n 0 (wk0 s))), .int (stW (wk f n 0 (wk0 s))), .int (wF ((wk f n 0 (wk0 s)).1)), .int (wG ((wk f n 0 (wk0 s)).1)), .int (wH ((wk f n 0 (wk0 s)).1))])), (27, .inr (0, [.ref 28, .ref 29, .ref 30, .int (skn (wS ((wk f n 0 (wk0 s)).1))), .int (sdr (wS ((wk f n 0 (wk0 s)).1))), .int (swa (wS ((wk f n 0 (wk0 s)).1))), .int (sbu (wS ((wk f n 0 (wk0 s)).1))), .int (sni (wS ((wk f n 0 (wk0 s)).1)))])), (28, .inl (false, 6, sce (wS ((wk f n 0 (wk0 s)).1)))), (29, .inl (false, 6, she (wS ((wk f n 0 (wk0 s)).1)))), (30, .inl (false, 6, stu (wS ((wk f n 0 (wk0 s)).1))))]) rfl) (Nat.le_of_ble_eq_true rfl) (fun _ _ hq9 => E_fgo ?_ hq9)
  show E _ _ 30 [.ref 0, .int 6] [.int (b2i (decide ((wk f n 0 (wk0 s)).2 = 0)))] (hov hp [(0, .inr (6, [.ref 1, .ref 5, .ref 7, .ref 10, .ref 18, .ref 26, .ref 31, .ref 35, .ref 37, .int (nI rk)])), (1, .inr (0, [.ref 2, .ref 3, .ref 4, .int (skn s), .int (sdr s), .int (swa s), .int (sbu s), .int (sni s)])), (2, .inl (false, 6, sce s)), (3, .inl (false, 6, she s)), (4, .inl (false, 6, stu s)), (5, .inr (3, [.ref 6, .int (nI n)])), (6, .inl (false, 60, f)), (26, .inr (5, [.ref 27, .int (nI (wA ((wk f n 0 (wk0 s)).1))), .int (stA (wk f n 0 (wk0 s))), .int (stW (wk f n 0 (wk0 s))), .int (wF ((wk f n 0 (wk0 s)).1)), .int (wG ((wk f n 0 (wk0 s)).1)), .int (wH ((wk f n 0 (wk0 s)).1))])), (27, .inr (0, [.ref 28, .ref 29, .ref 30, .int (skn (wS ((wk f n 0 (wk0 s)).1))), .int (sdr (wS ((wk f n 0 (wk0 s)).1))), .int (swa (wS ((wk f n 0 (wk0 s)).1))), .int (sbu (wS ((wk f n 0 (wk0 s)).1))), .int (sni (wS ((wk f n 0 (wk0 s)).1)))])), (28, .inl (false, 6, sce (wS ((wk f n 0 (wk0 s)).1)))), (29, .inl (false, 6, she (wS ((wk f n 0 (wk0 s)).1)))), (30, .inl (false, 6, stu (wS ((wk f n 0 (wk0 s)).1))))]) _
  refine E_if_ne (tgt := 36) dX6_then_30 (by decide) (fun _ => ?_) (fun c => (b2i_x1 hr c).elim)
  refine E_iload_n dX6_then_36 rfl ?_
  refine E_tableOut (tgt := 136) dX6_then_37 (by decide) (by decide) ?_
  refine E_aload_n dX6_then_136 rfl ?_
  refine E_get dX6_then_137 fX6_43 (by decide) rfl rfl ?_
  refine E_get dX6_then_140 fX6_161 (by decide) rfl rfl ?_
  exact E_iretf dX6_then_143 rfl rfl rfl rfl

set_option maxHeartbeats 4000000 in
set_option maxRecDepth 20000 in
theorem t_chain_unk (d : Nat) (rk : Nat) (x : Int32) (hx : inL (Int32.toInt64 x) 0 5 = false) : FC YX6_chain (d + 4) [.ref 0, .int x] [(0, .inr (6, [.ref 1, .ref 5, .ref 7, .ref 10, .ref 18, .ref 26, .ref 31, .ref 35, .ref 37, .int (nI rk)]))] (some (.int (-1))) [(0, .inr (6, [.ref 1, .ref 5, .ref 7, .ref 10, .ref 18, .ref 26, .ref 31, .ref 35, .ref 37, .int (nI rk)]))] := by
  intro hp
  refine E_iload_n dX6_chain_0 rfl ?_
  refine E_callS (As := [.int x]) (l' := [.int x]) (st := []) dX6_chain_1 kX6_65 sX6_isHeap MX6_isHeap rfl rfl (Nat.le_of_ble_eq_true rfl) (FC.use (c_isHeap (d + 2) _) rfl (L2 := [(0, .inr (6, [.ref 1, .ref 5, .ref 7, .ref 10, .ref 18, .ref 26, .ref 31, .ref 35, .ref 37, .int (nI rk)]))]) rfl) (Nat.le_of_ble_eq_true rfl) (fun _ _ hq9 => E_fgo ?_ hq9)
  show E _ _ 4 [.ref 0, .int x] [.int (b2i (inL (Int32.toInt64 x) 0 5))] (hov hp [(0, .inr (6, [.ref 1, .ref 5, .ref 7, .ref 10, .ref 18, .ref 26, .ref 31, .ref 35, .ref 37, .int (nI rk)]))]) _
  refine E_if_ne (tgt := 9) dX6_chain_4 (by decide) (fun c => (b2i_x0 hx c).elim) (fun _ => ?_)
  refine E_iconst (v := (-1)) dX6_chain_7 (by decide) ?_
  exact E_iretf dX6_chain_8 rfl rfl rfl rfl

set_option maxHeartbeats 4000000 in
set_option maxRecDepth 20000 in
theorem t_chain_state (d : Nat) (rk : Nat) (s : CS) (h : Nat) (hh : h < 6) (hx : inL (Int32.toInt64 (nI h)) 0 5 = true) (ha : decide (0 < she s h) = false) : FC YX6_chain (d + 4) [.ref 0, .int (nI h)] [(0, .inr (6, [.ref 1, .ref 5, .ref 7, .ref 10, .ref 18, .ref 26, .ref 31, .ref 35, .ref 37, .int (nI rk)])), (1, .inr (0, [.ref 2, .ref 3, .ref 4, .int (skn s), .int (sdr s), .int (swa s), .int (sbu s), .int (sni s)])), (2, .inl (false, 6, sce s)), (3, .inl (false, 6, she s)), (4, .inl (false, 6, stu s))] (some (.int (-3))) [(0, .inr (6, [.ref 1, .ref 5, .ref 7, .ref 10, .ref 18, .ref 26, .ref 31, .ref 35, .ref 37, .int (nI rk)])), (1, .inr (0, [.ref 2, .ref 3, .ref 4, .int (skn s), .int (sdr s), .int (swa s), .int (sbu s), .int (sni s)])), (2, .inl (false, 6, sce s)), (3, .inl (false, 6, she s)), (4, .inl (false, 6, stu s))] := by
  intro hp
  refine E_iload_n dX6_chain_0 rfl ?_
  refine E_callS (As := [.int (nI h)]) (l' := [.int (nI h)]) (st := []) dX6_chain_1 kX6_65 sX6_isHeap MX6_isHeap rfl rfl (Nat.le_of_ble_eq_true rfl) (FC.use (c_isHeap (d + 2) _) rfl (L2 := [(0, .inr (6, [.ref 1, .ref 5, .ref 7, .ref 10, .ref 18, .ref 26, .ref 31, .ref 35, .ref 37, .int (nI rk)])), (1, .inr (0, [.ref 2, .ref 3, .ref 4, .int (skn s), .int (sdr s), .int (swa s), .int (sbu s), .int (sni s)])), (2, .inl (false, 6, sce s)), (3, .inl (false, 6, she s)), (4, .inl (false, 6, stu s))]) rfl) (Nat.le_of_ble_eq_true rfl) (fun _ _ hq9 => E_fgo ?_ hq9)
  show E _ _ 4 [.ref 0, .int (nI h)] [.int (b2i (inL (Int32.toInt64 (nI h)) 0 5))] (hov hp [(0, .inr (6, [.ref 1, .ref 5, .ref 7, .ref 10, .ref 18, .ref 26, .ref 31, .ref 35, .ref 37, .int (nI rk)])), (1, .inr (0, [.ref 2, .ref 3, .ref 4, .int (skn s), .int (sdr s), .int (swa s), .int (sbu s), .int (sni s)])), (2, .inl (false, 6, sce s)), (3, .inl (false, 6, she s)), (4, .inl (false, 6, stu s))]) _
  refine E_if_ne (tgt := 9) dX6_chain_4 (by decide) (fun _ => ?_) (fun c => (b2i_x1 hx c).elim)
  refine E_aload_n dX6_chain_9 rfl ?_
  refine E_get dX6_chain_10 fX6_12 (by decide) rfl rfl ?_
  refine E_iload_n dX6_chain_13 rfl ?_
  refine E_callV (As := [.int (nI h)]) (l' := [.ref 1, .int (nI h)]) (st := []) dX6_chain_14 kX6_164 iX0_isAlight vX0_isAlight (by decide) rfl rfl MX0_isAlight rfl rfl (Nat.le_of_ble_eq_true rfl) (FC.use (c_isAlight_now (d + 3) (sce s) (she s) (stu s) (skn s) (sdr s) (swa s) (sbu s) (sni s) h (by omega)) rfl (L2 := [(0, .inr (6, [.ref 1, .ref 5, .ref 7, .ref 10, .ref 18, .ref 26, .ref 31, .ref 35, .ref 37, .int (nI rk)])), (1, .inr (0, [.ref 2, .ref 3, .ref 4, .int (skn s), .int (sdr s), .int (swa s), .int (sbu s), .int (sni s)])), (2, .inl (false, 6, sce s)), (3, .inl (false, 6, she s)), (4, .inl (false, 6, stu s))]) rfl) (Nat.le_of_ble_eq_true rfl) (fun _ _ hq9 => E_fgo ?_ hq9)
  show E _ _ 17 [.ref 0, .int (nI h)] [.int (b2i (decide (0 < she s h)))] (hov hp [(0, .inr (6, [.ref 1, .ref 5, .ref 7, .ref 10, .ref 18, .ref 26, .ref 31, .ref 35, .ref 37, .int (nI rk)])), (1, .inr (0, [.ref 2, .ref 3, .ref 4, .int (skn s), .int (sdr s), .int (swa s), .int (sbu s), .int (sni s)])), (2, .inl (false, 6, sce s)), (3, .inl (false, 6, she s)), (4, .inl (false, 6, stu s))]) _
  refine E_if_ne (tgt := 23) dX6_chain_17 (by decide) (fun c => (b2i_x0 ha c).elim) (fun _ => ?_)
  refine E_bipush (v := (-3)) dX6_chain_20 (by decide) ?_
  exact E_iretf dX6_chain_22 rfl rfl rfl rfl

set_option maxHeartbeats 4000000 in
set_option maxRecDepth 20000 in
theorem t_chain_ok (d : Nat) (rk : Nat) (s : CS) (h : Nat) (hh : h < 6) (hx : inL (Int32.toInt64 (nI h)) 0 5 = true) (ha : decide (0 < she s h) = true) : FC YX6_chain (d + 4) [.ref 0, .int (nI h)] [(0, .inr (6, [.ref 1, .ref 5, .ref 7, .ref 10, .ref 18, .ref 26, .ref 31, .ref 35, .ref 37, .int (nI rk)])), (1, .inr (0, [.ref 2, .ref 3, .ref 4, .int (skn s), .int (sdr s), .int (swa s), .int (sbu s), .int (sni s)])), (2, .inl (false, 6, sce s)), (3, .inl (false, 6, she s)), (4, .inl (false, 6, stu s))] (some (.int (flOut s 0 h 6))) [(0, .inr (6, [.ref 1, .ref 5, .ref 7, .ref 10, .ref 18, .ref 26, .ref 31, .ref 35, .ref 37, .int (nI rk)])), (1, .inr (0, [.ref 2, .ref 3, .ref 4, .int (skn s), .int (sdr s), .int (swa s), .int (sbu s), .int (sni s)])), (2, .inl (false, 6, sce s)), (3, .inl (false, 6, she s)), (4, .inl (false, 6, stu s))] := by
  intro hp
  refine E_iload_n dX6_chain_0 rfl ?_
  refine E_callS (As := [.int (nI h)]) (l' := [.int (nI h)]) (st := []) dX6_chain_1 kX6_65 sX6_isHeap MX6_isHeap rfl rfl (Nat.le_of_ble_eq_true rfl) (FC.use (c_isHeap (d + 2) _) rfl (L2 := [(0, .inr (6, [.ref 1, .ref 5, .ref 7, .ref 10, .ref 18, .ref 26, .ref 31, .ref 35, .ref 37, .int (nI rk)])), (1, .inr (0, [.ref 2, .ref 3, .ref 4, .int (skn s), .int (sdr s), .int (swa s), .int (sbu s), .int (sni s)])), (2, .inl (false, 6, sce s)), (3, .inl (false, 6, she s)), (4, .inl (false, 6, stu s))]) rfl) (Nat.le_of_ble_eq_true rfl) (fun _ _ hq9 => E_fgo ?_ hq9)
  show E _ _ 4 [.ref 0, .int (nI h)] [.int (b2i (inL (Int32.toInt64 (nI h)) 0 5))] (hov hp [(0, .inr (6, [.ref 1, .ref 5, .ref 7, .ref 10, .ref 18, .ref 26, .ref 31, .ref 35, .ref 37, .int (nI rk)])), (1, .inr (0, [.ref 2, .ref 3, .ref 4, .int (skn s), .int (sdr s), .int (swa s), .int (sbu s), .int (sni s)])), (2, .inl (false, 6, sce s)), (3, .inl (false, 6, she s)), (4, .inl (false, 6, stu s))]) _
  refine E_if_ne (tgt := 9) dX6_chain_4 (by decide) (fun _ => ?_) (fun c => (b2i_x1 hx c).elim)
  refine E_aload_n dX6_chain_9 rfl ?_
  refine E_get dX6_chain_10 fX6_12 (by decide) rfl rfl ?_
  refine E_iload_n dX6_chain_13 rfl ?_
  refine E_callV (As := [.int (nI h)]) (l' := [.ref 1, .int (nI h)]) (st := []) dX6_chain_14 kX6_164 iX0_isAlight vX0_isAlight (by decide) rfl rfl MX0_isAlight rfl rfl (Nat.le_of_ble_eq_true rfl) (FC.use (c_isAlight_now (d + 3) (sce s) (she s) (stu s) (skn s) (sdr s) (swa s) (sbu s) (sni s) h (by omega)) rfl (L2 := [(0, .inr (6, [.ref 1, .ref 5, .ref 7, .ref 10, .ref 18, .ref 26, .ref 31, .ref 35, .ref 37, .int (nI rk)])), (1, .inr (0, [.ref 2, .ref 3, .ref 4, .int (skn s), .int (sdr s), .int (swa s), .int (sbu s), .int (sni s)])), (2, .inl (false, 6, sce s)), (3, .inl (false, 6, she s)), (4, .inl (false, 6, stu s))]) rfl) (Nat.le_of_ble_eq_true rfl) (fun _ _ hq9 => E_fgo ?_ hq9)
  show E _ _ 17 [.ref 0, .int (nI h)] [.int (b2i (decide (0 < she s h)))] (hov hp [(0, .inr (6, [.ref 1, .ref 5, .ref 7, .ref 10, .ref 18, .ref 26, .ref 31, .ref 35, .ref 37, .int (nI rk)])), (1, .inr (0, [.ref 2, .ref 3, .ref 4, .int (skn s), .int (sdr s), .int (swa s), .int (sbu s), .int (sni s)])), (2, .inl (false, 6, sce s)), (3, .inl (false, 6, she s)), (4, .inl (false, 6, stu s))]) _
  refine E_if_ne (tgt := 23) dX6_chain_17 (by decide) (fun _ => ?_) (fun c => (b2i_x1 ha c).elim)
  refine E_aload_n dX6_chain_23 rfl ?_
  refine E_get dX6_chain_24 fX6_12 (by decide) rfl rfl ?_
  refine E_iload_n dX6_chain_27 rfl ?_
  refine E_iconst (v := 0) dX6_chain_28 (by decide) ?_
  refine E_callV (As := [.int (nI h), .int 0]) (l' := [.ref 1, .int (nI h), .int 0, .null, .null, .null, .null]) (st := []) dX6_chain_29 kX6_167 iX0_flaringBy vX0_flaringBy (by decide) rfl rfl MX0_flaringBy rfl rfl (Nat.le_of_ble_eq_true rfl) (FC.use (c_flaringBy d s h (by omega) 0) rfl (L2 := [(0, .inr (6, [.ref 1, .ref 5, .ref 7, .ref 10, .ref 18, .ref 26, .ref 31, .ref 35, .ref 37, .int (nI rk)])), (1, .inr (0, [.ref 2, .ref 3, .ref 4, .int (skn s), .int (sdr s), .int (swa s), .int (sbu s), .int (sni s)])), (2, .inl (false, 6, sce s)), (3, .inl (false, 6, she s)), (4, .inl (false, 6, stu s))]) rfl) (Nat.le_of_ble_eq_true rfl) (fun _ _ hq9 => E_fgo ?_ hq9)
  show E _ _ 32 [.ref 0, .int (nI h)] [.int (flOut s 0 h 6)] (hov hp [(0, .inr (6, [.ref 1, .ref 5, .ref 7, .ref 10, .ref 18, .ref 26, .ref 31, .ref 35, .ref 37, .int (nI rk)])), (1, .inr (0, [.ref 2, .ref 3, .ref 4, .int (skn s), .int (sdr s), .int (swa s), .int (sbu s), .int (sni s)])), (2, .inl (false, 6, sce s)), (3, .inl (false, 6, she s)), (4, .inl (false, 6, stu s))]) _
  exact E_iretf dX6_chain_32 rfl rfl rfl rfl

/-- the search for the fewest covered: best, fewest -/
def fcP (s : CS) (h g : Nat) (c : Nat) : Bool := decide (nI c &&& ((1 <<< (nI h &&& 31)) ||| (1 <<< (nI g &&& 31))) = 0)
def fcN (s : CS) (h g : Nat) : Nat → Int32 × Int32
  | 0 => (-6, 7)
  | c + 1 => bif fcP s h g c && (decide (bcI (nI c) < (fcN s h g c).2) && !hbt (flOut s (nI c) h 6) (nI g)) then (nI c, bcI (nI c)) else fcN s h g c
def fcB (s : CS) (h g : Nat) : Int32 := (fcN s h g 64).1
theorem fcN_t {s : CS} {h g c : Nat} (h1 : fcP s h g c = true) (h2 : bcI (nI c) < (fcN s h g c).2) (h3 : hbt (flOut s (nI c) h 6) (nI g) = false) : fcN s h g (c + 1) = (nI c, bcI (nI c)) := by
  rw [fcN, h1, h3, decide_eq_true h2]; rfl
theorem fcN_a {s : CS} {h g c : Nat} (h1 : fcP s h g c = false) : fcN s h g (c + 1) = fcN s h g c := by
  rw [fcN, h1]; rfl
theorem fcN_b {s : CS} {h g c : Nat} (h2 : ¬ bcI (nI c) < (fcN s h g c).2) : fcN s h g (c + 1) = fcN s h g c := by
  rw [fcN, decide_eq_false h2]; cases fcP s h g c <;> rfl
theorem fcN_c {s : CS} {h g c : Nat} (h3 : hbt (flOut s (nI c) h 6) (nI g) = true) : fcN s h g (c + 1) = fcN s h g c := by
  rw [fcN, h3]; cases fcP s h g c <;> cases decide (bcI (nI c) < (fcN s h g c).2) <;> rfl

set_option maxHeartbeats 4000000 in
set_option maxRecDepth 20000 in
theorem c_fewest (d : Nat) (rk : Nat) (s : CS) (h g : Nat) (hh : h < 6) (hg : g < 6) : FC YX6_fewestCovered (d + 4) [.ref 0, .int (nI h), .int (nI g), .null, .null, .null, .null, .null] [(0, .inr (6, [.ref 1, .ref 5, .ref 7, .ref 10, .ref 18, .ref 26, .ref 31, .ref 35, .ref 37, .int (nI rk)])), (1, .inr (0, [.ref 2, .ref 3, .ref 4, .int (skn s), .int (sdr s), .int (swa s), .int (sbu s), .int (sni s)])), (2, .inl (false, 6, sce s)), (3, .inl (false, 6, she s)), (4, .inl (false, 6, stu s))] (some (.int (fcB s h g))) [(0, .inr (6, [.ref 1, .ref 5, .ref 7, .ref 10, .ref 18, .ref 26, .ref 31, .ref 35, .ref 37, .int (nI rk)])), (1, .inr (0, [.ref 2, .ref 3, .ref 4, .int (skn s), .int (sdr s), .int (swa s), .int (sbu s), .int (sni s)])), (2, .inl (false, 6, sce s)), (3, .inl (false, 6, she s)), (4, .inl (false, 6, stu s))] := by
  intro hp
  refine E_iconst (v := 1) dX6_fewestCovered_0 (by decide) ?_
  refine E_iload_n dX6_fewestCovered_1 rfl ?_
  refine E_ishl dX6_fewestCovered_2 ?_
  refine E_iconst (v := 1) dX6_fewestCovered_3 (by decide) ?_
  refine E_iload_n dX6_fewestCovered_4 rfl ?_
  refine E_ishl dX6_fewestCovered_5 ?_
  refine E_ior dX6_fewestCovered_6 ?_
  refine E_istore_n (l2 := [.ref 0, .int (nI h), .int (nI g), .int ((1 <<< (nI h &&& 31)) ||| (1 <<< (nI g &&& 31))), .null, .null, .null, .null]) dX6_fewestCovered_7 rfl (by decide) rfl ?_
  refine E_bipush (v := (-6)) dX6_fewestCovered_8 (by decide) ?_
  refine E_istore (l2 := [.ref 0, .int (nI h), .int (nI g), .int ((1 <<< (nI h &&& 31)) ||| (1 <<< (nI g &&& 31))), .int (-6), .null, .null, .null]) dX6_fewestCovered_10 (by decide) rfl ?_
  refine E_bipush (v := 7) dX6_fewestCovered_12 (by decide) ?_
  refine E_istore (l2 := [.ref 0, .int (nI h), .int (nI g), .int ((1 <<< (nI h &&& 31)) ||| (1 <<< (nI g &&& 31))), .int (-6), .int 7, .null, .null]) dX6_fewestCovered_14 (by decide) rfl ?_
  refine E_iconst (v := 0) dX6_fewestCovered_16 (by decide) ?_
  refine E_istore (l2 := [.ref 0, .int (nI h), .int (nI g), .int ((1 <<< (nI h &&& 31)) ||| (1 <<< (nI g &&& 31))), .int (-6), .int 7, .int 0, .null]) dX6_fewestCovered_17 (by decide) rfl ?_
  have L19 : ∀ i, i ≤ 64 → ∀ l7 : Value, E YX6_fewestCovered (d + 4) 19 [.ref 0, .int (nI h), .int (nI g), .int ((1 <<< (nI h &&& 31)) ||| (1 <<< (nI g &&& 31))), .int ((fcN s h g i).1), .int ((fcN s h g i).2), .int (nI i), l7] [] (hov hp [(0, .inr (6, [.ref 1, .ref 5, .ref 7, .ref 10, .ref 18, .ref 26, .ref 31, .ref 35, .ref 37, .int (nI rk)])), (1, .inr (0, [.ref 2, .ref 3, .ref 4, .int (skn s), .int (sdr s), .int (swa s), .int (sbu s), .int (sni s)])), (2, .inl (false, 6, sce s)), (3, .inl (false, 6, she s)), (4, .inl (false, 6, stu s))]) (fun v h' => v = some (.int (fcB s h g)) ∧ h' = hov hp [(0, .inr (6, [.ref 1, .ref 5, .ref 7, .ref 10, .ref 18, .ref 26, .ref 31, .ref 35, .ref 37, .int (nI rk)])), (1, .inr (0, [.ref 2, .ref 3, .ref 4, .int (skn s), .int (sdr s), .int (swa s), .int (sbu s), .int (sni s)])), (2, .inl (false, 6, sce s)), (3, .inl (false, 6, she s)), (4, .inl (false, 6, stu s))]) := by
    refine down 64 ?_ ?_
    · intro l7
      refine E_iload dX6_fewestCovered_19 rfl ?_
      refine E_bipush (v := 64) dX6_fewestCovered_21 (by decide) ?_
      refine E_icmp_ge (tgt := 89) dX6_fewestCovered_23 (by decide) (fun _ => ?_) (fun c => absurd (by decide) c)
      refine E_iload dX6_fewestCovered_89 rfl ?_
      exact E_iretf dX6_fewestCovered_91 rfl rfl rfl rfl
    · intro i hi ih l7
      refine E_iload dX6_fewestCovered_19 rfl ?_
      refine E_bipush (v := 64) dX6_fewestCovered_21 (by decide) ?_
      refine E_icmp_ge (tgt := 89) dX6_fewestCovered_23 (by decide) (fun c => absurd c (cI_nle (n := 64) rfl hi (by decide))) (fun _ => ?_)
      refine E_iload dX6_fewestCovered_26 rfl ?_
      refine E_iload_n dX6_fewestCovered_28 rfl ?_
      refine E_iand dX6_fewestCovered_29 ?_
      refine E_if_ne (tgt := 47) dX6_fewestCovered_30 (by decide) (fun c30 => ?_) (fun c30 => ?_)
      · refine E_iconst (v := 0) dX6_fewestCovered_47 (by decide) ?_
        refine E_istore (l2 := [.ref 0, .int (nI h), .int (nI g), .int ((1 <<< (nI h &&& 31)) ||| (1 <<< (nI g &&& 31))), .int ((fcN s h g i).1), .int ((fcN s h g i).2), .int (nI i), .int 0]) dX6_fewestCovered_48 (by decide) rfl ?_
        refine E_iload dX6_fewestCovered_50 rfl ?_
        refine E_if_eq (tgt := 83) dX6_fewestCovered_52 (by decide) (fun _ => ?_) (fun c => by first | exact absurd c (by decide) | exact absurd (by decide) c)
        refine E_iinc (y := nI (i + 1)) (l2 := [.ref 0, .int (nI h), .int (nI g), .int ((1 <<< (nI h &&& 31)) ||| (1 <<< (nI g &&& 31))), .int ((fcN s h g i).1), .int ((fcN s h g i).2), .int (nI (i + 1)), .int 0]) dX6_fewestCovered_83 rfl (nI_1 _) (by decide) rfl ?_
        refine E_goto (tgt := 19) dX6_fewestCovered_86 (by decide) ?_
        have e9 := ih (.int 0)
        rw [fcN_a (decide_eq_false c30)] at e9
        exact e9
      · refine E_iload dX6_fewestCovered_33 rfl ?_
        refine E_callS (As := [.int (nI i)]) (l' := [.int (nI i)]) (st := []) dX6_fewestCovered_35 kX6_95 sJ6_bitCount_0f7a4 MJ6_bitCount_0f7a4 rfl rfl (Nat.le_of_ble_eq_true rfl) (FC.use (c_bitCount (d + 3) _) rfl (L2 := [(0, .inr (6, [.ref 1, .ref 5, .ref 7, .ref 10, .ref 18, .ref 26, .ref 31, .ref 35, .ref 37, .int (nI rk)])), (1, .inr (0, [.ref 2, .ref 3, .ref 4, .int (skn s), .int (sdr s), .int (swa s), .int (sbu s), .int (sni s)])), (2, .inl (false, 6, sce s)), (3, .inl (false, 6, she s)), (4, .inl (false, 6, stu s))]) rfl) (Nat.le_of_ble_eq_true rfl) (fun _ _ hq9 => E_fgo ?_ hq9)
        show E _ _ 38 [.ref 0, .int (nI h), .int (nI g), .int ((1 <<< (nI h &&& 31)) ||| (1 <<< (nI g &&& 31))), .int ((fcN s h g i).1), .int ((fcN s h g i).2), .int (nI i), l7] [.int (bcI (nI i))] (hov hp [(0, .inr (6, [.ref 1, .ref 5, .ref 7, .ref 10, .ref 18, .ref 26, .ref 31, .ref 35, .ref 37, .int (nI rk)])), (1, .inr (0, [.ref 2, .ref 3, .ref 4, .int (skn s), .int (sdr s), .int (swa s), .int (sbu s), .int (sni s)])), (2, .inl (false, 6, sce s)), (3, .inl (false, 6, she s)), (4, .inl (false, 6, stu s))]) _
        refine E_iload dX6_fewestCovered_38 rfl ?_
        refine E_icmp_ge (tgt := 47) dX6_fewestCovered_40 (by decide) (fun c40 => ?_) (fun c40 => ?_)
        · rw [← Int32.not_lt] at c40
          refine E_iconst (v := 0) dX6_fewestCovered_47 (by decide) ?_
          refine E_istore (l2 := [.ref 0, .int (nI h), .int (nI g), .int ((1 <<< (nI h &&& 31)) ||| (1 <<< (nI g &&& 31))), .int ((fcN s h g i).1), .int ((fcN s h g i).2), .int (nI i), .int 0]) dX6_fewestCovered_48 (by decide) rfl ?_
          refine E_iload dX6_fewestCovered_50 rfl ?_
          refine E_if_eq (tgt := 83) dX6_fewestCovered_52 (by decide) (fun _ => ?_) (fun c => by first | exact absurd c (by decide) | exact absurd (by decide) c)
          refine E_iinc (y := nI (i + 1)) (l2 := [.ref 0, .int (nI h), .int (nI g), .int ((1 <<< (nI h &&& 31)) ||| (1 <<< (nI g &&& 31))), .int ((fcN s h g i).1), .int ((fcN s h g i).2), .int (nI (i + 1)), .int 0]) dX6_fewestCovered_83 rfl (nI_1 _) (by decide) rfl ?_
          refine E_goto (tgt := 19) dX6_fewestCovered_86 (by decide) ?_
          have e9 := ih (.int 0)
          rw [fcN_b c40] at e9
          exact e9
        · rw [Int32.not_le] at c40
          refine E_iconst (v := 1) dX6_fewestCovered_43 (by decide) ?_
          refine E_goto (tgt := 48) dX6_fewestCovered_44 (by decide) ?_
          refine E_istore (l2 := [.ref 0, .int (nI h), .int (nI g), .int ((1 <<< (nI h &&& 31)) ||| (1 <<< (nI g &&& 31))), .int ((fcN s h g i).1), .int ((fcN s h g i).2), .int (nI i), .int 1]) dX6_fewestCovered_48 (by decide) rfl ?_
          refine E_iload dX6_fewestCovered_50 rfl ?_
          refine E_if_eq (tgt := 83) dX6_fewestCovered_52 (by decide) (fun c => by first | exact absurd c (by decide) | exact absurd (by decide) c) (fun _ => ?_)
          refine E_aload_n dX6_fewestCovered_55 rfl ?_
          refine E_get dX6_fewestCovered_56 fX6_12 (by decide) rfl rfl ?_
          refine E_iload_n dX6_fewestCovered_59 rfl ?_
          refine E_iload dX6_fewestCovered_60 rfl ?_
          refine E_callV (As := [.int (nI h), .int (nI i)]) (l' := [.ref 1, .int (nI h), .int (nI i), .null, .null, .null, .null]) (st := []) dX6_fewestCovered_62 kX6_167 iX0_flaringBy vX0_flaringBy (by decide) rfl rfl MX0_flaringBy rfl rfl (Nat.le_of_ble_eq_true rfl) (FC.use (c_flaringBy d s h (by omega) (nI i)) rfl (L2 := [(0, .inr (6, [.ref 1, .ref 5, .ref 7, .ref 10, .ref 18, .ref 26, .ref 31, .ref 35, .ref 37, .int (nI rk)])), (1, .inr (0, [.ref 2, .ref 3, .ref 4, .int (skn s), .int (sdr s), .int (swa s), .int (sbu s), .int (sni s)])), (2, .inl (false, 6, sce s)), (3, .inl (false, 6, she s)), (4, .inl (false, 6, stu s))]) rfl) (Nat.le_of_ble_eq_true rfl) (fun _ _ hq9 => E_fgo ?_ hq9)
          show E _ _ 65 [.ref 0, .int (nI h), .int (nI g), .int ((1 <<< (nI h &&& 31)) ||| (1 <<< (nI g &&& 31))), .int ((fcN s h g i).1), .int ((fcN s h g i).2), .int (nI i), .int 1] [.int (flOut s (nI i) h 6)] (hov hp [(0, .inr (6, [.ref 1, .ref 5, .ref 7, .ref 10, .ref 18, .ref 26, .ref 31, .ref 35, .ref 37, .int (nI rk)])), (1, .inr (0, [.ref 2, .ref 3, .ref 4, .int (skn s), .int (sdr s), .int (swa s), .int (sbu s), .int (sni s)])), (2, .inl (false, 6, sce s)), (3, .inl (false, 6, she s)), (4, .inl (false, 6, stu s))]) _
          refine E_iload_n dX6_fewestCovered_65 rfl ?_
          refine E_callS (As := [.int (flOut s (nI i) h 6), .int (nI g)]) (l' := [.int (flOut s (nI i) h 6), .int (nI g)]) (st := []) dX6_fewestCovered_66 kX6_174 sX6_hasBit MX6_hasBit rfl rfl (Nat.le_of_ble_eq_true rfl) (FC.use (c_hasBit (d + 3) _ _) rfl (L2 := [(0, .inr (6, [.ref 1, .ref 5, .ref 7, .ref 10, .ref 18, .ref 26, .ref 31, .ref 35, .ref 37, .int (nI rk)])), (1, .inr (0, [.ref 2, .ref 3, .ref 4, .int (skn s), .int (sdr s), .int (swa s), .int (sbu s), .int (sni s)])), (2, .inl (false, 6, sce s)), (3, .inl (false, 6, she s)), (4, .inl (false, 6, stu s))]) rfl) (Nat.le_of_ble_eq_true rfl) (fun _ _ hq9 => E_fgo ?_ hq9)
          show E _ _ 69 [.ref 0, .int (nI h), .int (nI g), .int ((1 <<< (nI h &&& 31)) ||| (1 <<< (nI g &&& 31))), .int ((fcN s h g i).1), .int ((fcN s h g i).2), .int (nI i), .int 1] [.int (b2i (hbt (flOut s (nI i) h 6) (nI g)))] (hov hp [(0, .inr (6, [.ref 1, .ref 5, .ref 7, .ref 10, .ref 18, .ref 26, .ref 31, .ref 35, .ref 37, .int (nI rk)])), (1, .inr (0, [.ref 2, .ref 3, .ref 4, .int (skn s), .int (sdr s), .int (swa s), .int (sbu s), .int (sni s)])), (2, .inl (false, 6, sce s)), (3, .inl (false, 6, she s)), (4, .inl (false, 6, stu s))]) _
          refine E_if_ne (tgt := 83) dX6_fewestCovered_69 (by decide) (fun c69 => ?_) (fun c69 => ?_)
          · have c69 := b2i_n0 c69
            refine E_iinc (y := nI (i + 1)) (l2 := [.ref 0, .int (nI h), .int (nI g), .int ((1 <<< (nI h &&& 31)) ||| (1 <<< (nI g &&& 31))), .int ((fcN s h g i).1), .int ((fcN s h g i).2), .int (nI (i + 1)), .int 1]) dX6_fewestCovered_83 rfl (nI_1 _) (by decide) rfl ?_
            refine E_goto (tgt := 19) dX6_fewestCovered_86 (by decide) ?_
            have e9 := ih (.int 1)
            rw [fcN_c c69] at e9
            exact e9
          · have c69 := b2i_e0 c69
            refine E_iload dX6_fewestCovered_72 rfl ?_
            refine E_istore (l2 := [.ref 0, .int (nI h), .int (nI g), .int ((1 <<< (nI h &&& 31)) ||| (1 <<< (nI g &&& 31))), .int (nI i), .int ((fcN s h g i).2), .int (nI i), .int 1]) dX6_fewestCovered_74 (by decide) rfl ?_
            refine E_iload dX6_fewestCovered_76 rfl ?_
            refine E_callS (As := [.int (nI i)]) (l' := [.int (nI i)]) (st := []) dX6_fewestCovered_78 kX6_95 sJ6_bitCount_0f7a4 MJ6_bitCount_0f7a4 rfl rfl (Nat.le_of_ble_eq_true rfl) (FC.use (c_bitCount (d + 3) _) rfl (L2 := [(0, .inr (6, [.ref 1, .ref 5, .ref 7, .ref 10, .ref 18, .ref 26, .ref 31, .ref 35, .ref 37, .int (nI rk)])), (1, .inr (0, [.ref 2, .ref 3, .ref 4, .int (skn s), .int (sdr s), .int (swa s), .int (sbu s), .int (sni s)])), (2, .inl (false, 6, sce s)), (3, .inl (false, 6, she s)), (4, .inl (false, 6, stu s))]) rfl) (Nat.le_of_ble_eq_true rfl) (fun _ _ hq9 => E_fgo ?_ hq9)
            show E _ _ 81 [.ref 0, .int (nI h), .int (nI g), .int ((1 <<< (nI h &&& 31)) ||| (1 <<< (nI g &&& 31))), .int (nI i), .int ((fcN s h g i).2), .int (nI i), .int 1] [.int (bcI (nI i))] (hov hp [(0, .inr (6, [.ref 1, .ref 5, .ref 7, .ref 10, .ref 18, .ref 26, .ref 31, .ref 35, .ref 37, .int (nI rk)])), (1, .inr (0, [.ref 2, .ref 3, .ref 4, .int (skn s), .int (sdr s), .int (swa s), .int (sbu s), .int (sni s)])), (2, .inl (false, 6, sce s)), (3, .inl (false, 6, she s)), (4, .inl (false, 6, stu s))]) _
            refine E_istore (l2 := [.ref 0, .int (nI h), .int (nI g), .int ((1 <<< (nI h &&& 31)) ||| (1 <<< (nI g &&& 31))), .int (nI i), .int (bcI (nI i)), .int (nI i), .int 1]) dX6_fewestCovered_81 (by decide) rfl ?_
            refine E_iinc (y := nI (i + 1)) (l2 := [.ref 0, .int (nI h), .int (nI g), .int ((1 <<< (nI h &&& 31)) ||| (1 <<< (nI g &&& 31))), .int (nI i), .int (bcI (nI i)), .int (nI (i + 1)), .int 1]) dX6_fewestCovered_83 rfl (nI_1 _) (by decide) rfl ?_
            refine E_goto (tgt := 19) dX6_fewestCovered_86 (by decide) ?_
            have e9 := ih (.int 1)
            rw [fcN_t (decide_eq_true c30) c40 c69] at e9
            exact e9
  exact L19 0 (by decide) _

set_option maxHeartbeats 4000000 in
set_option maxRecDepth 20000 in
theorem t_cov_u1 (d : Nat) (rk : Nat) (x y v : Int32) (h1 : inL (Int32.toInt64 x) 0 5 = false) : FC YX6_cover (d + 5) [.ref 0, .int x, .int y, .int v, .null] [(0, .inr (6, [.ref 1, .ref 5, .ref 7, .ref 10, .ref 18, .ref 26, .ref 31, .ref 35, .ref 37, .int (nI rk)]))] (some (.int (-1))) [(0, .inr (6, [.ref 1, .ref 5, .ref 7, .ref 10, .ref 18, .ref 26, .ref 31, .ref 35, .ref 37, .int (nI rk)]))] := by
  intro hp
  refine E_iload_n dX6_cover_0 rfl ?_
  refine E_callS (As := [.int x]) (l' := [.int x]) (st := []) dX6_cover_1 kX6_65 sX6_isHeap MX6_isHeap rfl rfl (Nat.le_of_ble_eq_true rfl) (FC.use (c_isHeap (d + 3) _) rfl (L2 := [(0, .inr (6, [.ref 1, .ref 5, .ref 7, .ref 10, .ref 18, .ref 26, .ref 31, .ref 35, .ref 37, .int (nI rk)]))]) rfl) (Nat.le_of_ble_eq_true rfl) (fun _ _ hq9 => E_fgo ?_ hq9)
  show E _ _ 4 [.ref 0, .int x, .int y, .int v, .null] [.int (b2i (inL (Int32.toInt64 x) 0 5))] (hov hp [(0, .inr (6, [.ref 1, .ref 5, .ref 7, .ref 10, .ref 18, .ref 26, .ref 31, .ref 35, .ref 37, .int (nI rk)]))]) _
  refine E_if_eq (tgt := 19) dX6_cover_4 (by decide) (fun _ => ?_) (fun c => (b2i_x0 h1 c).elim)
  refine E_iconst (v := (-1)) dX6_cover_19 (by decide) ?_
  exact E_iretf dX6_cover_20 rfl rfl rfl rfl

set_option maxHeartbeats 4000000 in
set_option maxRecDepth 20000 in
theorem t_cov_u2 (d : Nat) (rk : Nat) (x y v : Int32) (h1 : inL (Int32.toInt64 x) 0 5 = true) (h2 : inL (Int32.toInt64 y) 0 5 = false) : FC YX6_cover (d + 5) [.ref 0, .int x, .int y, .int v, .null] [(0, .inr (6, [.ref 1, .ref 5, .ref 7, .ref 10, .ref 18, .ref 26, .ref 31, .ref 35, .ref 37, .int (nI rk)]))] (some (.int (-1))) [(0, .inr (6, [.ref 1, .ref 5, .ref 7, .ref 10, .ref 18, .ref 26, .ref 31, .ref 35, .ref 37, .int (nI rk)]))] := by
  intro hp
  refine E_iload_n dX6_cover_0 rfl ?_
  refine E_callS (As := [.int x]) (l' := [.int x]) (st := []) dX6_cover_1 kX6_65 sX6_isHeap MX6_isHeap rfl rfl (Nat.le_of_ble_eq_true rfl) (FC.use (c_isHeap (d + 3) _) rfl (L2 := [(0, .inr (6, [.ref 1, .ref 5, .ref 7, .ref 10, .ref 18, .ref 26, .ref 31, .ref 35, .ref 37, .int (nI rk)]))]) rfl) (Nat.le_of_ble_eq_true rfl) (fun _ _ hq9 => E_fgo ?_ hq9)
  show E _ _ 4 [.ref 0, .int x, .int y, .int v, .null] [.int (b2i (inL (Int32.toInt64 x) 0 5))] (hov hp [(0, .inr (6, [.ref 1, .ref 5, .ref 7, .ref 10, .ref 18, .ref 26, .ref 31, .ref 35, .ref 37, .int (nI rk)]))]) _
  refine E_if_eq (tgt := 19) dX6_cover_4 (by decide) (fun c => (b2i_x1 h1 c).elim) (fun _ => ?_)
  refine E_iload_n dX6_cover_7 rfl ?_
  refine E_callS (As := [.int y]) (l' := [.int y]) (st := []) dX6_cover_8 kX6_65 sX6_isHeap MX6_isHeap rfl rfl (Nat.le_of_ble_eq_true rfl) (FC.use (c_isHeap (d + 3) _) rfl (L2 := [(0, .inr (6, [.ref 1, .ref 5, .ref 7, .ref 10, .ref 18, .ref 26, .ref 31, .ref 35, .ref 37, .int (nI rk)]))]) rfl) (Nat.le_of_ble_eq_true rfl) (fun _ _ hq9 => E_fgo ?_ hq9)
  show E _ _ 11 [.ref 0, .int x, .int y, .int v, .null] [.int (b2i (inL (Int32.toInt64 y) 0 5))] (hov hp [(0, .inr (6, [.ref 1, .ref 5, .ref 7, .ref 10, .ref 18, .ref 26, .ref 31, .ref 35, .ref 37, .int (nI rk)]))]) _
  refine E_if_eq (tgt := 19) dX6_cover_11 (by decide) (fun _ => ?_) (fun c => (b2i_x0 h2 c).elim)
  refine E_iconst (v := (-1)) dX6_cover_19 (by decide) ?_
  exact E_iretf dX6_cover_20 rfl rfl rfl rfl

set_option maxHeartbeats 4000000 in
set_option maxRecDepth 20000 in
theorem t_cov_u3 (d : Nat) (rk : Nat) (x v : Int32) (h1 : inL (Int32.toInt64 x) 0 5 = true) : FC YX6_cover (d + 5) [.ref 0, .int x, .int x, .int v, .null] [(0, .inr (6, [.ref 1, .ref 5, .ref 7, .ref 10, .ref 18, .ref 26, .ref 31, .ref 35, .ref 37, .int (nI rk)]))] (some (.int (-1))) [(0, .inr (6, [.ref 1, .ref 5, .ref 7, .ref 10, .ref 18, .ref 26, .ref 31, .ref 35, .ref 37, .int (nI rk)]))] := by
  intro hp
  refine E_iload_n dX6_cover_0 rfl ?_
  refine E_callS (As := [.int x]) (l' := [.int x]) (st := []) dX6_cover_1 kX6_65 sX6_isHeap MX6_isHeap rfl rfl (Nat.le_of_ble_eq_true rfl) (FC.use (c_isHeap (d + 3) _) rfl (L2 := [(0, .inr (6, [.ref 1, .ref 5, .ref 7, .ref 10, .ref 18, .ref 26, .ref 31, .ref 35, .ref 37, .int (nI rk)]))]) rfl) (Nat.le_of_ble_eq_true rfl) (fun _ _ hq9 => E_fgo ?_ hq9)
  show E _ _ 4 [.ref 0, .int x, .int x, .int v, .null] [.int (b2i (inL (Int32.toInt64 x) 0 5))] (hov hp [(0, .inr (6, [.ref 1, .ref 5, .ref 7, .ref 10, .ref 18, .ref 26, .ref 31, .ref 35, .ref 37, .int (nI rk)]))]) _
  refine E_if_eq (tgt := 19) dX6_cover_4 (by decide) (fun c => (b2i_x1 h1 c).elim) (fun _ => ?_)
  refine E_iload_n dX6_cover_7 rfl ?_
  refine E_callS (As := [.int x]) (l' := [.int x]) (st := []) dX6_cover_8 kX6_65 sX6_isHeap MX6_isHeap rfl rfl (Nat.le_of_ble_eq_true rfl) (FC.use (c_isHeap (d + 3) _) rfl (L2 := [(0, .inr (6, [.ref 1, .ref 5, .ref 7, .ref 10, .ref 18, .ref 26, .ref 31, .ref 35, .ref 37, .int (nI rk)]))]) rfl) (Nat.le_of_ble_eq_true rfl) (fun _ _ hq9 => E_fgo ?_ hq9)
  show E _ _ 11 [.ref 0, .int x, .int x, .int v, .null] [.int (b2i (inL (Int32.toInt64 x) 0 5))] (hov hp [(0, .inr (6, [.ref 1, .ref 5, .ref 7, .ref 10, .ref 18, .ref 26, .ref 31, .ref 35, .ref 37, .int (nI rk)]))]) _
  refine E_if_eq (tgt := 19) dX6_cover_11 (by decide) (fun c => (b2i_x1 h1 c).elim) (fun _ => ?_)
  refine E_iload_n dX6_cover_14 rfl ?_
  refine E_iload_n dX6_cover_15 rfl ?_
  refine E_icmp_ne (tgt := 21) dX6_cover_16 (by decide) (fun c => absurd rfl c) (fun _ => ?_)
  refine E_iconst (v := (-1)) dX6_cover_19 (by decide) ?_
  exact E_iretf dX6_cover_20 rfl rfl rfl rfl

set_option maxHeartbeats 4000000 in
set_option maxRecDepth 20000 in
theorem t_cov_out (d : Nat) (rk : Nat) (s : CS) (h g : Nat) (hh : h < 6) (hg : g < 6) (hne : ¬ nI h = nI g) (v : Int32) (h1 : inL (Int32.toInt64 (nI h)) 0 5 = true) (h2 : inL (Int32.toInt64 (nI g)) 0 5 = true) (hv : inL (Int32.toInt64 v) 0 1 = false) : FC YX6_cover (d + 5) [.ref 0, .int (nI h), .int (nI g), .int v, .null] [(0, .inr (6, [.ref 1, .ref 5, .ref 7, .ref 10, .ref 18, .ref 26, .ref 31, .ref 35, .ref 37, .int (nI rk)])), (1, .inr (0, [.ref 2, .ref 3, .ref 4, .int (skn s), .int (sdr s), .int (swa s), .int (sbu s), .int (sni s)])), (2, .inl (false, 6, sce s)), (3, .inl (false, 6, she s)), (4, .inl (false, 6, stu s))] (some (.int (-2))) [(0, .inr (6, [.ref 1, .ref 5, .ref 7, .ref 10, .ref 18, .ref 26, .ref 31, .ref 35, .ref 37, .int (nI rk)])), (1, .inr (0, [.ref 2, .ref 3, .ref 4, .int (skn s), .int (sdr s), .int (swa s), .int (sbu s), .int (sni s)])), (2, .inl (false, 6, sce s)), (3, .inl (false, 6, she s)), (4, .inl (false, 6, stu s))] := by
  intro hp
  refine E_iload_n dX6_cover_0 rfl ?_
  refine E_callS (As := [.int (nI h)]) (l' := [.int (nI h)]) (st := []) dX6_cover_1 kX6_65 sX6_isHeap MX6_isHeap rfl rfl (Nat.le_of_ble_eq_true rfl) (FC.use (c_isHeap (d + 3) _) rfl (L2 := [(0, .inr (6, [.ref 1, .ref 5, .ref 7, .ref 10, .ref 18, .ref 26, .ref 31, .ref 35, .ref 37, .int (nI rk)])), (1, .inr (0, [.ref 2, .ref 3, .ref 4, .int (skn s), .int (sdr s), .int (swa s), .int (sbu s), .int (sni s)])), (2, .inl (false, 6, sce s)), (3, .inl (false, 6, she s)), (4, .inl (false, 6, stu s))]) rfl) (Nat.le_of_ble_eq_true rfl) (fun _ _ hq9 => E_fgo ?_ hq9)
  show E _ _ 4 [.ref 0, .int (nI h), .int (nI g), .int v, .null] [.int (b2i (inL (Int32.toInt64 (nI h)) 0 5))] (hov hp [(0, .inr (6, [.ref 1, .ref 5, .ref 7, .ref 10, .ref 18, .ref 26, .ref 31, .ref 35, .ref 37, .int (nI rk)])), (1, .inr (0, [.ref 2, .ref 3, .ref 4, .int (skn s), .int (sdr s), .int (swa s), .int (sbu s), .int (sni s)])), (2, .inl (false, 6, sce s)), (3, .inl (false, 6, she s)), (4, .inl (false, 6, stu s))]) _
  refine E_if_eq (tgt := 19) dX6_cover_4 (by decide) (fun c => (b2i_x1 h1 c).elim) (fun _ => ?_)
  refine E_iload_n dX6_cover_7 rfl ?_
  refine E_callS (As := [.int (nI g)]) (l' := [.int (nI g)]) (st := []) dX6_cover_8 kX6_65 sX6_isHeap MX6_isHeap rfl rfl (Nat.le_of_ble_eq_true rfl) (FC.use (c_isHeap (d + 3) _) rfl (L2 := [(0, .inr (6, [.ref 1, .ref 5, .ref 7, .ref 10, .ref 18, .ref 26, .ref 31, .ref 35, .ref 37, .int (nI rk)])), (1, .inr (0, [.ref 2, .ref 3, .ref 4, .int (skn s), .int (sdr s), .int (swa s), .int (sbu s), .int (sni s)])), (2, .inl (false, 6, sce s)), (3, .inl (false, 6, she s)), (4, .inl (false, 6, stu s))]) rfl) (Nat.le_of_ble_eq_true rfl) (fun _ _ hq9 => E_fgo ?_ hq9)
  show E _ _ 11 [.ref 0, .int (nI h), .int (nI g), .int v, .null] [.int (b2i (inL (Int32.toInt64 (nI g)) 0 5))] (hov hp [(0, .inr (6, [.ref 1, .ref 5, .ref 7, .ref 10, .ref 18, .ref 26, .ref 31, .ref 35, .ref 37, .int (nI rk)])), (1, .inr (0, [.ref 2, .ref 3, .ref 4, .int (skn s), .int (sdr s), .int (swa s), .int (sbu s), .int (sni s)])), (2, .inl (false, 6, sce s)), (3, .inl (false, 6, she s)), (4, .inl (false, 6, stu s))]) _
  refine E_if_eq (tgt := 19) dX6_cover_11 (by decide) (fun c => (b2i_x1 h2 c).elim) (fun _ => ?_)
  refine E_iload_n dX6_cover_14 rfl ?_
  refine E_iload_n dX6_cover_15 rfl ?_
  refine E_icmp_ne (tgt := 21) dX6_cover_16 (by decide) (fun _ => ?_) (fun c => absurd c hne)
  refine E_iload_n dX6_cover_21 rfl ?_
  refine E_i2l dX6_cover_22 ?_
  refine E_lconst (v := 0) dX6_cover_23 (by decide) ?_
  refine E_lconst (v := 1) dX6_cover_24 (by decide) ?_
  refine E_callS (As := [.long (Int32.toInt64 v), .long 0, .long 1]) (l' := [.long (Int32.toInt64 v), .null, .long 0, .null, .long 1, .null]) (st := []) dX6_cover_25 kX6_73 sX6_isIn MX6_isIn rfl rfl (Nat.le_of_ble_eq_true rfl) (FC.use (c_isIn (d + 4) _ _ _) rfl (L2 := [(0, .inr (6, [.ref 1, .ref 5, .ref 7, .ref 10, .ref 18, .ref 26, .ref 31, .ref 35, .ref 37, .int (nI rk)])), (1, .inr (0, [.ref 2, .ref 3, .ref 4, .int (skn s), .int (sdr s), .int (swa s), .int (sbu s), .int (sni s)])), (2, .inl (false, 6, sce s)), (3, .inl (false, 6, she s)), (4, .inl (false, 6, stu s))]) rfl) (Nat.le_of_ble_eq_true rfl) (fun _ _ hq9 => E_fgo ?_ hq9)
  show E _ _ 28 [.ref 0, .int (nI h), .int (nI g), .int v, .null] [.int (b2i (inL (Int32.toInt64 v) 0 1))] (hov hp [(0, .inr (6, [.ref 1, .ref 5, .ref 7, .ref 10, .ref 18, .ref 26, .ref 31, .ref 35, .ref 37, .int (nI rk)])), (1, .inr (0, [.ref 2, .ref 3, .ref 4, .int (skn s), .int (sdr s), .int (swa s), .int (sbu s), .int (sni s)])), (2, .inl (false, 6, sce s)), (3, .inl (false, 6, she s)), (4, .inl (false, 6, stu s))]) _
  refine E_if_ne (tgt := 34) dX6_cover_28 (by decide) (fun c => (b2i_x0 hv c).elim) (fun _ => ?_)
  refine E_bipush (v := (-2)) dX6_cover_31 (by decide) ?_
  exact E_iretf dX6_cover_33 rfl rfl rfl rfl

set_option maxHeartbeats 4000000 in
set_option maxRecDepth 20000 in
theorem t_cov_s1 (d : Nat) (rk : Nat) (s : CS) (h g : Nat) (hh : h < 6) (hg : g < 6) (hne : ¬ nI h = nI g) (v : Int32) (h1 : inL (Int32.toInt64 (nI h)) 0 5 = true) (h2 : inL (Int32.toInt64 (nI g)) 0 5 = true) (hv : inL (Int32.toInt64 v) 0 1 = true) (ha : decide (0 < she s h) = false) : FC YX6_cover (d + 5) [.ref 0, .int (nI h), .int (nI g), .int v, .null] [(0, .inr (6, [.ref 1, .ref 5, .ref 7, .ref 10, .ref 18, .ref 26, .ref 31, .ref 35, .ref 37, .int (nI rk)])), (1, .inr (0, [.ref 2, .ref 3, .ref 4, .int (skn s), .int (sdr s), .int (swa s), .int (sbu s), .int (sni s)])), (2, .inl (false, 6, sce s)), (3, .inl (false, 6, she s)), (4, .inl (false, 6, stu s))] (some (.int (-3))) [(0, .inr (6, [.ref 1, .ref 5, .ref 7, .ref 10, .ref 18, .ref 26, .ref 31, .ref 35, .ref 37, .int (nI rk)])), (1, .inr (0, [.ref 2, .ref 3, .ref 4, .int (skn s), .int (sdr s), .int (swa s), .int (sbu s), .int (sni s)])), (2, .inl (false, 6, sce s)), (3, .inl (false, 6, she s)), (4, .inl (false, 6, stu s))] := by
  intro hp
  refine E_iload_n dX6_cover_0 rfl ?_
  refine E_callS (As := [.int (nI h)]) (l' := [.int (nI h)]) (st := []) dX6_cover_1 kX6_65 sX6_isHeap MX6_isHeap rfl rfl (Nat.le_of_ble_eq_true rfl) (FC.use (c_isHeap (d + 3) _) rfl (L2 := [(0, .inr (6, [.ref 1, .ref 5, .ref 7, .ref 10, .ref 18, .ref 26, .ref 31, .ref 35, .ref 37, .int (nI rk)])), (1, .inr (0, [.ref 2, .ref 3, .ref 4, .int (skn s), .int (sdr s), .int (swa s), .int (sbu s), .int (sni s)])), (2, .inl (false, 6, sce s)), (3, .inl (false, 6, she s)), (4, .inl (false, 6, stu s))]) rfl) (Nat.le_of_ble_eq_true rfl) (fun _ _ hq9 => E_fgo ?_ hq9)
  show E _ _ 4 [.ref 0, .int (nI h), .int (nI g), .int v, .null] [.int (b2i (inL (Int32.toInt64 (nI h)) 0 5))] (hov hp [(0, .inr (6, [.ref 1, .ref 5, .ref 7, .ref 10, .ref 18, .ref 26, .ref 31, .ref 35, .ref 37, .int (nI rk)])), (1, .inr (0, [.ref 2, .ref 3, .ref 4, .int (skn s), .int (sdr s), .int (swa s), .int (sbu s), .int (sni s)])), (2, .inl (false, 6, sce s)), (3, .inl (false, 6, she s)), (4, .inl (false, 6, stu s))]) _
  refine E_if_eq (tgt := 19) dX6_cover_4 (by decide) (fun c => (b2i_x1 h1 c).elim) (fun _ => ?_)
  refine E_iload_n dX6_cover_7 rfl ?_
  refine E_callS (As := [.int (nI g)]) (l' := [.int (nI g)]) (st := []) dX6_cover_8 kX6_65 sX6_isHeap MX6_isHeap rfl rfl (Nat.le_of_ble_eq_true rfl) (FC.use (c_isHeap (d + 3) _) rfl (L2 := [(0, .inr (6, [.ref 1, .ref 5, .ref 7, .ref 10, .ref 18, .ref 26, .ref 31, .ref 35, .ref 37, .int (nI rk)])), (1, .inr (0, [.ref 2, .ref 3, .ref 4, .int (skn s), .int (sdr s), .int (swa s), .int (sbu s), .int (sni s)])), (2, .inl (false, 6, sce s)), (3, .inl (false, 6, she s)), (4, .inl (false, 6, stu s))]) rfl) (Nat.le_of_ble_eq_true rfl) (fun _ _ hq9 => E_fgo ?_ hq9)
  show E _ _ 11 [.ref 0, .int (nI h), .int (nI g), .int v, .null] [.int (b2i (inL (Int32.toInt64 (nI g)) 0 5))] (hov hp [(0, .inr (6, [.ref 1, .ref 5, .ref 7, .ref 10, .ref 18, .ref 26, .ref 31, .ref 35, .ref 37, .int (nI rk)])), (1, .inr (0, [.ref 2, .ref 3, .ref 4, .int (skn s), .int (sdr s), .int (swa s), .int (sbu s), .int (sni s)])), (2, .inl (false, 6, sce s)), (3, .inl (false, 6, she s)), (4, .inl (false, 6, stu s))]) _
  refine E_if_eq (tgt := 19) dX6_cover_11 (by decide) (fun c => (b2i_x1 h2 c).elim) (fun _ => ?_)
  refine E_iload_n dX6_cover_14 rfl ?_
  refine E_iload_n dX6_cover_15 rfl ?_
  refine E_icmp_ne (tgt := 21) dX6_cover_16 (by decide) (fun _ => ?_) (fun c => absurd c hne)
  refine E_iload_n dX6_cover_21 rfl ?_
  refine E_i2l dX6_cover_22 ?_
  refine E_lconst (v := 0) dX6_cover_23 (by decide) ?_
  refine E_lconst (v := 1) dX6_cover_24 (by decide) ?_
  refine E_callS (As := [.long (Int32.toInt64 v), .long 0, .long 1]) (l' := [.long (Int32.toInt64 v), .null, .long 0, .null, .long 1, .null]) (st := []) dX6_cover_25 kX6_73 sX6_isIn MX6_isIn rfl rfl (Nat.le_of_ble_eq_true rfl) (FC.use (c_isIn (d + 4) _ _ _) rfl (L2 := [(0, .inr (6, [.ref 1, .ref 5, .ref 7, .ref 10, .ref 18, .ref 26, .ref 31, .ref 35, .ref 37, .int (nI rk)])), (1, .inr (0, [.ref 2, .ref 3, .ref 4, .int (skn s), .int (sdr s), .int (swa s), .int (sbu s), .int (sni s)])), (2, .inl (false, 6, sce s)), (3, .inl (false, 6, she s)), (4, .inl (false, 6, stu s))]) rfl) (Nat.le_of_ble_eq_true rfl) (fun _ _ hq9 => E_fgo ?_ hq9)
  show E _ _ 28 [.ref 0, .int (nI h), .int (nI g), .int v, .null] [.int (b2i (inL (Int32.toInt64 v) 0 1))] (hov hp [(0, .inr (6, [.ref 1, .ref 5, .ref 7, .ref 10, .ref 18, .ref 26, .ref 31, .ref 35, .ref 37, .int (nI rk)])), (1, .inr (0, [.ref 2, .ref 3, .ref 4, .int (skn s), .int (sdr s), .int (swa s), .int (sbu s), .int (sni s)])), (2, .inl (false, 6, sce s)), (3, .inl (false, 6, she s)), (4, .inl (false, 6, stu s))]) _
  refine E_if_ne (tgt := 34) dX6_cover_28 (by decide) (fun _ => ?_) (fun c => (b2i_x1 hv c).elim)
  refine E_aload_n dX6_cover_34 rfl ?_
  refine E_get dX6_cover_35 fX6_12 (by decide) rfl rfl ?_
  refine E_iload_n dX6_cover_38 rfl ?_
  refine E_callV (As := [.int (nI h)]) (l' := [.ref 1, .int (nI h)]) (st := []) dX6_cover_39 kX6_164 iX0_isAlight vX0_isAlight (by decide) rfl rfl MX0_isAlight rfl rfl (Nat.le_of_ble_eq_true rfl) (FC.use (c_isAlight_now (d + 4) (sce s) (she s) (stu s) (skn s) (sdr s) (swa s) (sbu s) (sni s) h (by omega)) rfl (L2 := [(0, .inr (6, [.ref 1, .ref 5, .ref 7, .ref 10, .ref 18, .ref 26, .ref 31, .ref 35, .ref 37, .int (nI rk)])), (1, .inr (0, [.ref 2, .ref 3, .ref 4, .int (skn s), .int (sdr s), .int (swa s), .int (sbu s), .int (sni s)])), (2, .inl (false, 6, sce s)), (3, .inl (false, 6, she s)), (4, .inl (false, 6, stu s))]) rfl) (Nat.le_of_ble_eq_true rfl) (fun _ _ hq9 => E_fgo ?_ hq9)
  show E _ _ 42 [.ref 0, .int (nI h), .int (nI g), .int v, .null] [.int (b2i (decide (0 < she s h)))] (hov hp [(0, .inr (6, [.ref 1, .ref 5, .ref 7, .ref 10, .ref 18, .ref 26, .ref 31, .ref 35, .ref 37, .int (nI rk)])), (1, .inr (0, [.ref 2, .ref 3, .ref 4, .int (skn s), .int (sdr s), .int (swa s), .int (sbu s), .int (sni s)])), (2, .inl (false, 6, sce s)), (3, .inl (false, 6, she s)), (4, .inl (false, 6, stu s))]) _
  refine E_if_eq (tgt := 56) dX6_cover_42 (by decide) (fun _ => ?_) (fun c => (b2i_x0 ha c).elim)
  refine E_bipush (v := (-3)) dX6_cover_56 (by decide) ?_
  exact E_iretf dX6_cover_58 rfl rfl rfl rfl

set_option maxHeartbeats 4000000 in
set_option maxRecDepth 20000 in
theorem t_cov_s2 (d : Nat) (rk : Nat) (s : CS) (h g : Nat) (hh : h < 6) (hg : g < 6) (hne : ¬ nI h = nI g) (v : Int32) (h1 : inL (Int32.toInt64 (nI h)) 0 5 = true) (h2 : inL (Int32.toInt64 (nI g)) 0 5 = true) (hv : inL (Int32.toInt64 v) 0 1 = true) (ha : decide (0 < she s h) = true) (hb : decide (0 < she s g) = false) : FC YX6_cover (d + 5) [.ref 0, .int (nI h), .int (nI g), .int v, .null] [(0, .inr (6, [.ref 1, .ref 5, .ref 7, .ref 10, .ref 18, .ref 26, .ref 31, .ref 35, .ref 37, .int (nI rk)])), (1, .inr (0, [.ref 2, .ref 3, .ref 4, .int (skn s), .int (sdr s), .int (swa s), .int (sbu s), .int (sni s)])), (2, .inl (false, 6, sce s)), (3, .inl (false, 6, she s)), (4, .inl (false, 6, stu s))] (some (.int (-3))) [(0, .inr (6, [.ref 1, .ref 5, .ref 7, .ref 10, .ref 18, .ref 26, .ref 31, .ref 35, .ref 37, .int (nI rk)])), (1, .inr (0, [.ref 2, .ref 3, .ref 4, .int (skn s), .int (sdr s), .int (swa s), .int (sbu s), .int (sni s)])), (2, .inl (false, 6, sce s)), (3, .inl (false, 6, she s)), (4, .inl (false, 6, stu s))] := by
  intro hp
  refine E_iload_n dX6_cover_0 rfl ?_
  refine E_callS (As := [.int (nI h)]) (l' := [.int (nI h)]) (st := []) dX6_cover_1 kX6_65 sX6_isHeap MX6_isHeap rfl rfl (Nat.le_of_ble_eq_true rfl) (FC.use (c_isHeap (d + 3) _) rfl (L2 := [(0, .inr (6, [.ref 1, .ref 5, .ref 7, .ref 10, .ref 18, .ref 26, .ref 31, .ref 35, .ref 37, .int (nI rk)])), (1, .inr (0, [.ref 2, .ref 3, .ref 4, .int (skn s), .int (sdr s), .int (swa s), .int (sbu s), .int (sni s)])), (2, .inl (false, 6, sce s)), (3, .inl (false, 6, she s)), (4, .inl (false, 6, stu s))]) rfl) (Nat.le_of_ble_eq_true rfl) (fun _ _ hq9 => E_fgo ?_ hq9)
  show E _ _ 4 [.ref 0, .int (nI h), .int (nI g), .int v, .null] [.int (b2i (inL (Int32.toInt64 (nI h)) 0 5))] (hov hp [(0, .inr (6, [.ref 1, .ref 5, .ref 7, .ref 10, .ref 18, .ref 26, .ref 31, .ref 35, .ref 37, .int (nI rk)])), (1, .inr (0, [.ref 2, .ref 3, .ref 4, .int (skn s), .int (sdr s), .int (swa s), .int (sbu s), .int (sni s)])), (2, .inl (false, 6, sce s)), (3, .inl (false, 6, she s)), (4, .inl (false, 6, stu s))]) _
  refine E_if_eq (tgt := 19) dX6_cover_4 (by decide) (fun c => (b2i_x1 h1 c).elim) (fun _ => ?_)
  refine E_iload_n dX6_cover_7 rfl ?_
  refine E_callS (As := [.int (nI g)]) (l' := [.int (nI g)]) (st := []) dX6_cover_8 kX6_65 sX6_isHeap MX6_isHeap rfl rfl (Nat.le_of_ble_eq_true rfl) (FC.use (c_isHeap (d + 3) _) rfl (L2 := [(0, .inr (6, [.ref 1, .ref 5, .ref 7, .ref 10, .ref 18, .ref 26, .ref 31, .ref 35, .ref 37, .int (nI rk)])), (1, .inr (0, [.ref 2, .ref 3, .ref 4, .int (skn s), .int (sdr s), .int (swa s), .int (sbu s), .int (sni s)])), (2, .inl (false, 6, sce s)), (3, .inl (false, 6, she s)), (4, .inl (false, 6, stu s))]) rfl) (Nat.le_of_ble_eq_true rfl) (fun _ _ hq9 => E_fgo ?_ hq9)
  show E _ _ 11 [.ref 0, .int (nI h), .int (nI g), .int v, .null] [.int (b2i (inL (Int32.toInt64 (nI g)) 0 5))] (hov hp [(0, .inr (6, [.ref 1, .ref 5, .ref 7, .ref 10, .ref 18, .ref 26, .ref 31, .ref 35, .ref 37, .int (nI rk)])), (1, .inr (0, [.ref 2, .ref 3, .ref 4, .int (skn s), .int (sdr s), .int (swa s), .int (sbu s), .int (sni s)])), (2, .inl (false, 6, sce s)), (3, .inl (false, 6, she s)), (4, .inl (false, 6, stu s))]) _
  refine E_if_eq (tgt := 19) dX6_cover_11 (by decide) (fun c => (b2i_x1 h2 c).elim) (fun _ => ?_)
  refine E_iload_n dX6_cover_14 rfl ?_
  refine E_iload_n dX6_cover_15 rfl ?_
  refine E_icmp_ne (tgt := 21) dX6_cover_16 (by decide) (fun _ => ?_) (fun c => absurd c hne)
  refine E_iload_n dX6_cover_21 rfl ?_
  refine E_i2l dX6_cover_22 ?_
  refine E_lconst (v := 0) dX6_cover_23 (by decide) ?_
  refine E_lconst (v := 1) dX6_cover_24 (by decide) ?_
  refine E_callS (As := [.long (Int32.toInt64 v), .long 0, .long 1]) (l' := [.long (Int32.toInt64 v), .null, .long 0, .null, .long 1, .null]) (st := []) dX6_cover_25 kX6_73 sX6_isIn MX6_isIn rfl rfl (Nat.le_of_ble_eq_true rfl) (FC.use (c_isIn (d + 4) _ _ _) rfl (L2 := [(0, .inr (6, [.ref 1, .ref 5, .ref 7, .ref 10, .ref 18, .ref 26, .ref 31, .ref 35, .ref 37, .int (nI rk)])), (1, .inr (0, [.ref 2, .ref 3, .ref 4, .int (skn s), .int (sdr s), .int (swa s), .int (sbu s), .int (sni s)])), (2, .inl (false, 6, sce s)), (3, .inl (false, 6, she s)), (4, .inl (false, 6, stu s))]) rfl) (Nat.le_of_ble_eq_true rfl) (fun _ _ hq9 => E_fgo ?_ hq9)
  show E _ _ 28 [.ref 0, .int (nI h), .int (nI g), .int v, .null] [.int (b2i (inL (Int32.toInt64 v) 0 1))] (hov hp [(0, .inr (6, [.ref 1, .ref 5, .ref 7, .ref 10, .ref 18, .ref 26, .ref 31, .ref 35, .ref 37, .int (nI rk)])), (1, .inr (0, [.ref 2, .ref 3, .ref 4, .int (skn s), .int (sdr s), .int (swa s), .int (sbu s), .int (sni s)])), (2, .inl (false, 6, sce s)), (3, .inl (false, 6, she s)), (4, .inl (false, 6, stu s))]) _
  refine E_if_ne (tgt := 34) dX6_cover_28 (by decide) (fun _ => ?_) (fun c => (b2i_x1 hv c).elim)
  refine E_aload_n dX6_cover_34 rfl ?_
  refine E_get dX6_cover_35 fX6_12 (by decide) rfl rfl ?_
  refine E_iload_n dX6_cover_38 rfl ?_
  refine E_callV (As := [.int (nI h)]) (l' := [.ref 1, .int (nI h)]) (st := []) dX6_cover_39 kX6_164 iX0_isAlight vX0_isAlight (by decide) rfl rfl MX0_isAlight rfl rfl (Nat.le_of_ble_eq_true rfl) (FC.use (c_isAlight_now (d + 4) (sce s) (she s) (stu s) (skn s) (sdr s) (swa s) (sbu s) (sni s) h (by omega)) rfl (L2 := [(0, .inr (6, [.ref 1, .ref 5, .ref 7, .ref 10, .ref 18, .ref 26, .ref 31, .ref 35, .ref 37, .int (nI rk)])), (1, .inr (0, [.ref 2, .ref 3, .ref 4, .int (skn s), .int (sdr s), .int (swa s), .int (sbu s), .int (sni s)])), (2, .inl (false, 6, sce s)), (3, .inl (false, 6, she s)), (4, .inl (false, 6, stu s))]) rfl) (Nat.le_of_ble_eq_true rfl) (fun _ _ hq9 => E_fgo ?_ hq9)
  show E _ _ 42 [.ref 0, .int (nI h), .int (nI g), .int v, .null] [.int (b2i (decide (0 < she s h)))] (hov hp [(0, .inr (6, [.ref 1, .ref 5, .ref 7, .ref 10, .ref 18, .ref 26, .ref 31, .ref 35, .ref 37, .int (nI rk)])), (1, .inr (0, [.ref 2, .ref 3, .ref 4, .int (skn s), .int (sdr s), .int (swa s), .int (sbu s), .int (sni s)])), (2, .inl (false, 6, sce s)), (3, .inl (false, 6, she s)), (4, .inl (false, 6, stu s))]) _
  refine E_if_eq (tgt := 56) dX6_cover_42 (by decide) (fun c => (b2i_x1 ha c).elim) (fun _ => ?_)
  refine E_aload_n dX6_cover_45 rfl ?_
  refine E_get dX6_cover_46 fX6_12 (by decide) rfl rfl ?_
  refine E_iload_n dX6_cover_49 rfl ?_
  refine E_callV (As := [.int (nI g)]) (l' := [.ref 1, .int (nI g)]) (st := []) dX6_cover_50 kX6_164 iX0_isAlight vX0_isAlight (by decide) rfl rfl MX0_isAlight rfl rfl (Nat.le_of_ble_eq_true rfl) (FC.use (c_isAlight_now (d + 4) (sce s) (she s) (stu s) (skn s) (sdr s) (swa s) (sbu s) (sni s) g (by omega)) rfl (L2 := [(0, .inr (6, [.ref 1, .ref 5, .ref 7, .ref 10, .ref 18, .ref 26, .ref 31, .ref 35, .ref 37, .int (nI rk)])), (1, .inr (0, [.ref 2, .ref 3, .ref 4, .int (skn s), .int (sdr s), .int (swa s), .int (sbu s), .int (sni s)])), (2, .inl (false, 6, sce s)), (3, .inl (false, 6, she s)), (4, .inl (false, 6, stu s))]) rfl) (Nat.le_of_ble_eq_true rfl) (fun _ _ hq9 => E_fgo ?_ hq9)
  show E _ _ 53 [.ref 0, .int (nI h), .int (nI g), .int v, .null] [.int (b2i (decide (0 < she s g)))] (hov hp [(0, .inr (6, [.ref 1, .ref 5, .ref 7, .ref 10, .ref 18, .ref 26, .ref 31, .ref 35, .ref 37, .int (nI rk)])), (1, .inr (0, [.ref 2, .ref 3, .ref 4, .int (skn s), .int (sdr s), .int (swa s), .int (sbu s), .int (sni s)])), (2, .inl (false, 6, sce s)), (3, .inl (false, 6, she s)), (4, .inl (false, 6, stu s))]) _
  refine E_if_ne (tgt := 59) dX6_cover_53 (by decide) (fun c => (b2i_x0 hb c).elim) (fun _ => ?_)
  refine E_bipush (v := (-3)) dX6_cover_56 (by decide) ?_
  exact E_iretf dX6_cover_58 rfl rfl rfl rfl

set_option maxHeartbeats 4000000 in
set_option maxRecDepth 20000 in
theorem t_cov_none (d : Nat) (rk : Nat) (s : CS) (h g : Nat) (hh : h < 6) (hg : g < 6) (hne : ¬ nI h = nI g) (v : Int32) (h1 : inL (Int32.toInt64 (nI h)) 0 5 = true) (h2 : inL (Int32.toInt64 (nI g)) 0 5 = true) (hv : inL (Int32.toInt64 v) 0 1 = true) (ha : decide (0 < she s h) = true) (hb : decide (0 < she s g) = true) (hn : fcB s h g = -6) : FC YX6_cover (d + 5) [.ref 0, .int (nI h), .int (nI g), .int v, .null] [(0, .inr (6, [.ref 1, .ref 5, .ref 7, .ref 10, .ref 18, .ref 26, .ref 31, .ref 35, .ref 37, .int (nI rk)])), (1, .inr (0, [.ref 2, .ref 3, .ref 4, .int (skn s), .int (sdr s), .int (swa s), .int (sbu s), .int (sni s)])), (2, .inl (false, 6, sce s)), (3, .inl (false, 6, she s)), (4, .inl (false, 6, stu s))] (some (.int (-6))) [(0, .inr (6, [.ref 1, .ref 5, .ref 7, .ref 10, .ref 18, .ref 26, .ref 31, .ref 35, .ref 37, .int (nI rk)])), (1, .inr (0, [.ref 2, .ref 3, .ref 4, .int (skn s), .int (sdr s), .int (swa s), .int (sbu s), .int (sni s)])), (2, .inl (false, 6, sce s)), (3, .inl (false, 6, she s)), (4, .inl (false, 6, stu s))] := by
  intro hp
  refine E_iload_n dX6_cover_0 rfl ?_
  refine E_callS (As := [.int (nI h)]) (l' := [.int (nI h)]) (st := []) dX6_cover_1 kX6_65 sX6_isHeap MX6_isHeap rfl rfl (Nat.le_of_ble_eq_true rfl) (FC.use (c_isHeap (d + 3) _) rfl (L2 := [(0, .inr (6, [.ref 1, .ref 5, .ref 7, .ref 10, .ref 18, .ref 26, .ref 31, .ref 35, .ref 37, .int (nI rk)])), (1, .inr (0, [.ref 2, .ref 3, .ref 4, .int (skn s), .int (sdr s), .int (swa s), .int (sbu s), .int (sni s)])), (2, .inl (false, 6, sce s)), (3, .inl (false, 6, she s)), (4, .inl (false, 6, stu s))]) rfl) (Nat.le_of_ble_eq_true rfl) (fun _ _ hq9 => E_fgo ?_ hq9)
  show E _ _ 4 [.ref 0, .int (nI h), .int (nI g), .int v, .null] [.int (b2i (inL (Int32.toInt64 (nI h)) 0 5))] (hov hp [(0, .inr (6, [.ref 1, .ref 5, .ref 7, .ref 10, .ref 18, .ref 26, .ref 31, .ref 35, .ref 37, .int (nI rk)])), (1, .inr (0, [.ref 2, .ref 3, .ref 4, .int (skn s), .int (sdr s), .int (swa s), .int (sbu s), .int (sni s)])), (2, .inl (false, 6, sce s)), (3, .inl (false, 6, she s)), (4, .inl (false, 6, stu s))]) _
  refine E_if_eq (tgt := 19) dX6_cover_4 (by decide) (fun c => (b2i_x1 h1 c).elim) (fun _ => ?_)
  refine E_iload_n dX6_cover_7 rfl ?_
  refine E_callS (As := [.int (nI g)]) (l' := [.int (nI g)]) (st := []) dX6_cover_8 kX6_65 sX6_isHeap MX6_isHeap rfl rfl (Nat.le_of_ble_eq_true rfl) (FC.use (c_isHeap (d + 3) _) rfl (L2 := [(0, .inr (6, [.ref 1, .ref 5, .ref 7, .ref 10, .ref 18, .ref 26, .ref 31, .ref 35, .ref 37, .int (nI rk)])), (1, .inr (0, [.ref 2, .ref 3, .ref 4, .int (skn s), .int (sdr s), .int (swa s), .int (sbu s), .int (sni s)])), (2, .inl (false, 6, sce s)), (3, .inl (false, 6, she s)), (4, .inl (false, 6, stu s))]) rfl) (Nat.le_of_ble_eq_true rfl) (fun _ _ hq9 => E_fgo ?_ hq9)
  show E _ _ 11 [.ref 0, .int (nI h), .int (nI g), .int v, .null] [.int (b2i (inL (Int32.toInt64 (nI g)) 0 5))] (hov hp [(0, .inr (6, [.ref 1, .ref 5, .ref 7, .ref 10, .ref 18, .ref 26, .ref 31, .ref 35, .ref 37, .int (nI rk)])), (1, .inr (0, [.ref 2, .ref 3, .ref 4, .int (skn s), .int (sdr s), .int (swa s), .int (sbu s), .int (sni s)])), (2, .inl (false, 6, sce s)), (3, .inl (false, 6, she s)), (4, .inl (false, 6, stu s))]) _
  refine E_if_eq (tgt := 19) dX6_cover_11 (by decide) (fun c => (b2i_x1 h2 c).elim) (fun _ => ?_)
  refine E_iload_n dX6_cover_14 rfl ?_
  refine E_iload_n dX6_cover_15 rfl ?_
  refine E_icmp_ne (tgt := 21) dX6_cover_16 (by decide) (fun _ => ?_) (fun c => absurd c hne)
  refine E_iload_n dX6_cover_21 rfl ?_
  refine E_i2l dX6_cover_22 ?_
  refine E_lconst (v := 0) dX6_cover_23 (by decide) ?_
  refine E_lconst (v := 1) dX6_cover_24 (by decide) ?_
  refine E_callS (As := [.long (Int32.toInt64 v), .long 0, .long 1]) (l' := [.long (Int32.toInt64 v), .null, .long 0, .null, .long 1, .null]) (st := []) dX6_cover_25 kX6_73 sX6_isIn MX6_isIn rfl rfl (Nat.le_of_ble_eq_true rfl) (FC.use (c_isIn (d + 4) _ _ _) rfl (L2 := [(0, .inr (6, [.ref 1, .ref 5, .ref 7, .ref 10, .ref 18, .ref 26, .ref 31, .ref 35, .ref 37, .int (nI rk)])), (1, .inr (0, [.ref 2, .ref 3, .ref 4, .int (skn s), .int (sdr s), .int (swa s), .int (sbu s), .int (sni s)])), (2, .inl (false, 6, sce s)), (3, .inl (false, 6, she s)), (4, .inl (false, 6, stu s))]) rfl) (Nat.le_of_ble_eq_true rfl) (fun _ _ hq9 => E_fgo ?_ hq9)
  show E _ _ 28 [.ref 0, .int (nI h), .int (nI g), .int v, .null] [.int (b2i (inL (Int32.toInt64 v) 0 1))] (hov hp [(0, .inr (6, [.ref 1, .ref 5, .ref 7, .ref 10, .ref 18, .ref 26, .ref 31, .ref 35, .ref 37, .int (nI rk)])), (1, .inr (0, [.ref 2, .ref 3, .ref 4, .int (skn s), .int (sdr s), .int (swa s), .int (sbu s), .int (sni s)])), (2, .inl (false, 6, sce s)), (3, .inl (false, 6, she s)), (4, .inl (false, 6, stu s))]) _
  refine E_if_ne (tgt := 34) dX6_cover_28 (by decide) (fun _ => ?_) (fun c => (b2i_x1 hv c).elim)
  refine E_aload_n dX6_cover_34 rfl ?_
  refine E_get dX6_cover_35 fX6_12 (by decide) rfl rfl ?_
  refine E_iload_n dX6_cover_38 rfl ?_
  refine E_callV (As := [.int (nI h)]) (l' := [.ref 1, .int (nI h)]) (st := []) dX6_cover_39 kX6_164 iX0_isAlight vX0_isAlight (by decide) rfl rfl MX0_isAlight rfl rfl (Nat.le_of_ble_eq_true rfl) (FC.use (c_isAlight_now (d + 4) (sce s) (she s) (stu s) (skn s) (sdr s) (swa s) (sbu s) (sni s) h (by omega)) rfl (L2 := [(0, .inr (6, [.ref 1, .ref 5, .ref 7, .ref 10, .ref 18, .ref 26, .ref 31, .ref 35, .ref 37, .int (nI rk)])), (1, .inr (0, [.ref 2, .ref 3, .ref 4, .int (skn s), .int (sdr s), .int (swa s), .int (sbu s), .int (sni s)])), (2, .inl (false, 6, sce s)), (3, .inl (false, 6, she s)), (4, .inl (false, 6, stu s))]) rfl) (Nat.le_of_ble_eq_true rfl) (fun _ _ hq9 => E_fgo ?_ hq9)
  show E _ _ 42 [.ref 0, .int (nI h), .int (nI g), .int v, .null] [.int (b2i (decide (0 < she s h)))] (hov hp [(0, .inr (6, [.ref 1, .ref 5, .ref 7, .ref 10, .ref 18, .ref 26, .ref 31, .ref 35, .ref 37, .int (nI rk)])), (1, .inr (0, [.ref 2, .ref 3, .ref 4, .int (skn s), .int (sdr s), .int (swa s), .int (sbu s), .int (sni s)])), (2, .inl (false, 6, sce s)), (3, .inl (false, 6, she s)), (4, .inl (false, 6, stu s))]) _
  refine E_if_eq (tgt := 56) dX6_cover_42 (by decide) (fun c => (b2i_x1 ha c).elim) (fun _ => ?_)
  refine E_aload_n dX6_cover_45 rfl ?_
  refine E_get dX6_cover_46 fX6_12 (by decide) rfl rfl ?_
  refine E_iload_n dX6_cover_49 rfl ?_
  refine E_callV (As := [.int (nI g)]) (l' := [.ref 1, .int (nI g)]) (st := []) dX6_cover_50 kX6_164 iX0_isAlight vX0_isAlight (by decide) rfl rfl MX0_isAlight rfl rfl (Nat.le_of_ble_eq_true rfl) (FC.use (c_isAlight_now (d + 4) (sce s) (she s) (stu s) (skn s) (sdr s) (swa s) (sbu s) (sni s) g (by omega)) rfl (L2 := [(0, .inr (6, [.ref 1, .ref 5, .ref 7, .ref 10, .ref 18, .ref 26, .ref 31, .ref 35, .ref 37, .int (nI rk)])), (1, .inr (0, [.ref 2, .ref 3, .ref 4, .int (skn s), .int (sdr s), .int (swa s), .int (sbu s), .int (sni s)])), (2, .inl (false, 6, sce s)), (3, .inl (false, 6, she s)), (4, .inl (false, 6, stu s))]) rfl) (Nat.le_of_ble_eq_true rfl) (fun _ _ hq9 => E_fgo ?_ hq9)
  show E _ _ 53 [.ref 0, .int (nI h), .int (nI g), .int v, .null] [.int (b2i (decide (0 < she s g)))] (hov hp [(0, .inr (6, [.ref 1, .ref 5, .ref 7, .ref 10, .ref 18, .ref 26, .ref 31, .ref 35, .ref 37, .int (nI rk)])), (1, .inr (0, [.ref 2, .ref 3, .ref 4, .int (skn s), .int (sdr s), .int (swa s), .int (sbu s), .int (sni s)])), (2, .inl (false, 6, sce s)), (3, .inl (false, 6, she s)), (4, .inl (false, 6, stu s))]) _
  refine E_if_ne (tgt := 59) dX6_cover_53 (by decide) (fun _ => ?_) (fun c => (b2i_x1 hb c).elim)
  refine E_aload_n dX6_cover_59 rfl ?_
  refine E_iload_n dX6_cover_60 rfl ?_
  refine E_iload_n dX6_cover_61 rfl ?_
  refine E_callV (As := [.int (nI h), .int (nI g)]) (l' := [.ref 0, .int (nI h), .int (nI g), .null, .null, .null, .null, .null]) (st := []) dX6_cover_62 kX6_171 iX6_fewestCovered vX6_fewestCovered (by decide) rfl rfl MX6_fewestCovered rfl rfl (Nat.le_of_ble_eq_true rfl) (FC.use (c_fewest d rk s h g hh hg) rfl (L2 := [(0, .inr (6, [.ref 1, .ref 5, .ref 7, .ref 10, .ref 18, .ref 26, .ref 31, .ref 35, .ref 37, .int (nI rk)])), (1, .inr (0, [.ref 2, .ref 3, .ref 4, .int (skn s), .int (sdr s), .int (swa s), .int (sbu s), .int (sni s)])), (2, .inl (false, 6, sce s)), (3, .inl (false, 6, she s)), (4, .inl (false, 6, stu s))]) rfl) (Nat.le_of_ble_eq_true rfl) (fun _ _ hq9 => E_fgo ?_ hq9)
  show E _ _ 65 [.ref 0, .int (nI h), .int (nI g), .int v, .null] [.int (fcB s h g)] (hov hp [(0, .inr (6, [.ref 1, .ref 5, .ref 7, .ref 10, .ref 18, .ref 26, .ref 31, .ref 35, .ref 37, .int (nI rk)])), (1, .inr (0, [.ref 2, .ref 3, .ref 4, .int (skn s), .int (sdr s), .int (swa s), .int (sbu s), .int (sni s)])), (2, .inl (false, 6, sce s)), (3, .inl (false, 6, she s)), (4, .inl (false, 6, stu s))]) _
  refine E_istore (l2 := [.ref 0, .int (nI h), .int (nI g), .int v, .int (fcB s h g)]) dX6_cover_65 (by decide) rfl ?_
  refine E_iload dX6_cover_67 rfl ?_
  refine E_bipush (v := (-6)) dX6_cover_69 (by decide) ?_
  refine E_icmp_ne (tgt := 77) dX6_cover_71 (by decide) (fun c => absurd hn c) (fun _ => ?_)
  refine E_bipush (v := (-6)) dX6_cover_74 (by decide) ?_
  exact E_iretf dX6_cover_76 rfl rfl rfl rfl

set_option maxHeartbeats 4000000 in
set_option maxRecDepth 20000 in
theorem t_cov_0 (d : Nat) (rk : Nat) (s : CS) (h g : Nat) (hh : h < 6) (hg : g < 6) (hne : ¬ nI h = nI g) (h1 : inL (Int32.toInt64 (nI h)) 0 5 = true) (h2 : inL (Int32.toInt64 (nI g)) 0 5 = true) (hv : inL (Int32.toInt64 0) 0 1 = true) (ha : decide (0 < she s h) = true) (hb : decide (0 < she s g) = true) (hn : ¬ fcB s h g = -6) : FC YX6_cover (d + 5) [.ref 0, .int (nI h), .int (nI g), .int 0, .null] [(0, .inr (6, [.ref 1, .ref 5, .ref 7, .ref 10, .ref 18, .ref 26, .ref 31, .ref 35, .ref 37, .int (nI rk)])), (1, .inr (0, [.ref 2, .ref 3, .ref 4, .int (skn s), .int (sdr s), .int (swa s), .int (sbu s), .int (sni s)])), (2, .inl (false, 6, sce s)), (3, .inl (false, 6, she s)), (4, .inl (false, 6, stu s))] (some (.int (bcI (fcB s h g)))) [(0, .inr (6, [.ref 1, .ref 5, .ref 7, .ref 10, .ref 18, .ref 26, .ref 31, .ref 35, .ref 37, .int (nI rk)])), (1, .inr (0, [.ref 2, .ref 3, .ref 4, .int (skn s), .int (sdr s), .int (swa s), .int (sbu s), .int (sni s)])), (2, .inl (false, 6, sce s)), (3, .inl (false, 6, she s)), (4, .inl (false, 6, stu s))] := by
  intro hp
  refine E_iload_n dX6_cover_0 rfl ?_
  refine E_callS (As := [.int (nI h)]) (l' := [.int (nI h)]) (st := []) dX6_cover_1 kX6_65 sX6_isHeap MX6_isHeap rfl rfl (Nat.le_of_ble_eq_true rfl) (FC.use (c_isHeap (d + 3) _) rfl (L2 := [(0, .inr (6, [.ref 1, .ref 5, .ref 7, .ref 10, .ref 18, .ref 26, .ref 31, .ref 35, .ref 37, .int (nI rk)])), (1, .inr (0, [.ref 2, .ref 3, .ref 4, .int (skn s), .int (sdr s), .int (swa s), .int (sbu s), .int (sni s)])), (2, .inl (false, 6, sce s)), (3, .inl (false, 6, she s)), (4, .inl (false, 6, stu s))]) rfl) (Nat.le_of_ble_eq_true rfl) (fun _ _ hq9 => E_fgo ?_ hq9)
  show E _ _ 4 [.ref 0, .int (nI h), .int (nI g), .int 0, .null] [.int (b2i (inL (Int32.toInt64 (nI h)) 0 5))] (hov hp [(0, .inr (6, [.ref 1, .ref 5, .ref 7, .ref 10, .ref 18, .ref 26, .ref 31, .ref 35, .ref 37, .int (nI rk)])), (1, .inr (0, [.ref 2, .ref 3, .ref 4, .int (skn s), .int (sdr s), .int (swa s), .int (sbu s), .int (sni s)])), (2, .inl (false, 6, sce s)), (3, .inl (false, 6, she s)), (4, .inl (false, 6, stu s))]) _
  refine E_if_eq (tgt := 19) dX6_cover_4 (by decide) (fun c => (b2i_x1 h1 c).elim) (fun _ => ?_)
  refine E_iload_n dX6_cover_7 rfl ?_
  refine E_callS (As := [.int (nI g)]) (l' := [.int (nI g)]) (st := []) dX6_cover_8 kX6_65 sX6_isHeap MX6_isHeap rfl rfl (Nat.le_of_ble_eq_true rfl) (FC.use (c_isHeap (d + 3) _) rfl (L2 := [(0, .inr (6, [.ref 1, .ref 5, .ref 7, .ref 10, .ref 18, .ref 26, .ref 31, .ref 35, .ref 37, .int (nI rk)])), (1, .inr (0, [.ref 2, .ref 3, .ref 4, .int (skn s), .int (sdr s), .int (swa s), .int (sbu s), .int (sni s)])), (2, .inl (false, 6, sce s)), (3, .inl (false, 6, she s)), (4, .inl (false, 6, stu s))]) rfl) (Nat.le_of_ble_eq_true rfl) (fun _ _ hq9 => E_fgo ?_ hq9)
  show E _ _ 11 [.ref 0, .int (nI h), .int (nI g), .int 0, .null] [.int (b2i (inL (Int32.toInt64 (nI g)) 0 5))] (hov hp [(0, .inr (6, [.ref 1, .ref 5, .ref 7, .ref 10, .ref 18, .ref 26, .ref 31, .ref 35, .ref 37, .int (nI rk)])), (1, .inr (0, [.ref 2, .ref 3, .ref 4, .int (skn s), .int (sdr s), .int (swa s), .int (sbu s), .int (sni s)])), (2, .inl (false, 6, sce s)), (3, .inl (false, 6, she s)), (4, .inl (false, 6, stu s))]) _
  refine E_if_eq (tgt := 19) dX6_cover_11 (by decide) (fun c => (b2i_x1 h2 c).elim) (fun _ => ?_)
  refine E_iload_n dX6_cover_14 rfl ?_
  refine E_iload_n dX6_cover_15 rfl ?_
  refine E_icmp_ne (tgt := 21) dX6_cover_16 (by decide) (fun _ => ?_) (fun c => absurd c hne)
  refine E_iload_n dX6_cover_21 rfl ?_
  refine E_i2l dX6_cover_22 ?_
  refine E_lconst (v := 0) dX6_cover_23 (by decide) ?_
  refine E_lconst (v := 1) dX6_cover_24 (by decide) ?_
  refine E_callS (As := [.long (Int32.toInt64 0), .long 0, .long 1]) (l' := [.long (Int32.toInt64 0), .null, .long 0, .null, .long 1, .null]) (st := []) dX6_cover_25 kX6_73 sX6_isIn MX6_isIn rfl rfl (Nat.le_of_ble_eq_true rfl) (FC.use (c_isIn (d + 4) _ _ _) rfl (L2 := [(0, .inr (6, [.ref 1, .ref 5, .ref 7, .ref 10, .ref 18, .ref 26, .ref 31, .ref 35, .ref 37, .int (nI rk)])), (1, .inr (0, [.ref 2, .ref 3, .ref 4, .int (skn s), .int (sdr s), .int (swa s), .int (sbu s), .int (sni s)])), (2, .inl (false, 6, sce s)), (3, .inl (false, 6, she s)), (4, .inl (false, 6, stu s))]) rfl) (Nat.le_of_ble_eq_true rfl) (fun _ _ hq9 => E_fgo ?_ hq9)
  show E _ _ 28 [.ref 0, .int (nI h), .int (nI g), .int 0, .null] [.int (b2i (inL (Int32.toInt64 0) 0 1))] (hov hp [(0, .inr (6, [.ref 1, .ref 5, .ref 7, .ref 10, .ref 18, .ref 26, .ref 31, .ref 35, .ref 37, .int (nI rk)])), (1, .inr (0, [.ref 2, .ref 3, .ref 4, .int (skn s), .int (sdr s), .int (swa s), .int (sbu s), .int (sni s)])), (2, .inl (false, 6, sce s)), (3, .inl (false, 6, she s)), (4, .inl (false, 6, stu s))]) _
  refine E_if_ne (tgt := 34) dX6_cover_28 (by decide) (fun _ => ?_) (fun c => (b2i_x1 hv c).elim)
  refine E_aload_n dX6_cover_34 rfl ?_
  refine E_get dX6_cover_35 fX6_12 (by decide) rfl rfl ?_
  refine E_iload_n dX6_cover_38 rfl ?_
  refine E_callV (As := [.int (nI h)]) (l' := [.ref 1, .int (nI h)]) (st := []) dX6_cover_39 kX6_164 iX0_isAlight vX0_isAlight (by decide) rfl rfl MX0_isAlight rfl rfl (Nat.le_of_ble_eq_true rfl) (FC.use (c_isAlight_now (d + 4) (sce s) (she s) (stu s) (skn s) (sdr s) (swa s) (sbu s) (sni s) h (by omega)) rfl (L2 := [(0, .inr (6, [.ref 1, .ref 5, .ref 7, .ref 10, .ref 18, .ref 26, .ref 31, .ref 35, .ref 37, .int (nI rk)])), (1, .inr (0, [.ref 2, .ref 3, .ref 4, .int (skn s), .int (sdr s), .int (swa s), .int (sbu s), .int (sni s)])), (2, .inl (false, 6, sce s)), (3, .inl (false, 6, she s)), (4, .inl (false, 6, stu s))]) rfl) (Nat.le_of_ble_eq_true rfl) (fun _ _ hq9 => E_fgo ?_ hq9)
  show E _ _ 42 [.ref 0, .int (nI h), .int (nI g), .int 0, .null] [.int (b2i (decide (0 < she s h)))] (hov hp [(0, .inr (6, [.ref 1, .ref 5, .ref 7, .ref 10, .ref 18, .ref 26, .ref 31, .ref 35, .ref 37, .int (nI rk)])), (1, .inr (0, [.ref 2, .ref 3, .ref 4, .int (skn s), .int (sdr s), .int (swa s), .int (sbu s), .int (sni s)])), (2, .inl (false, 6, sce s)), (3, .inl (false, 6, she s)), (4, .inl (false, 6, stu s))]) _
  refine E_if_eq (tgt := 56) dX6_cover_42 (by decide) (fun c => (b2i_x1 ha c).elim) (fun _ => ?_)
  refine E_aload_n dX6_cover_45 rfl ?_
  refine E_get dX6_cover_46 fX6_12 (by decide) rfl rfl ?_
  refine E_iload_n dX6_cover_49 rfl ?_
  refine E_callV (As := [.int (nI g)]) (l' := [.ref 1, .int (nI g)]) (st := []) dX6_cover_50 kX6_164 iX0_isAlight vX0_isAlight (by decide) rfl rfl MX0_isAlight rfl rfl (Nat.le_of_ble_eq_true rfl) (FC.use (c_isAlight_now (d + 4) (sce s) (she s) (stu s) (skn s) (sdr s) (swa s) (sbu s) (sni s) g (by omega)) rfl (L2 := [(0, .inr (6, [.ref 1, .ref 5, .ref 7, .ref 10, .ref 18, .ref 26, .ref 31, .ref 35, .ref 37, .int (nI rk)])), (1, .inr (0, [.ref 2, .ref 3, .ref 4, .int (skn s), .int (sdr s), .int (swa s), .int (sbu s), .int (sni s)])), (2, .inl (false, 6, sce s)), (3, .inl (false, 6, she s)), (4, .inl (false, 6, stu s))]) rfl) (Nat.le_of_ble_eq_true rfl) (fun _ _ hq9 => E_fgo ?_ hq9)
  show E _ _ 53 [.ref 0, .int (nI h), .int (nI g), .int 0, .null] [.int (b2i (decide (0 < she s g)))] (hov hp [(0, .inr (6, [.ref 1, .ref 5, .ref 7, .ref 10, .ref 18, .ref 26, .ref 31, .ref 35, .ref 37, .int (nI rk)])), (1, .inr (0, [.ref 2, .ref 3, .ref 4, .int (skn s), .int (sdr s), .int (swa s), .int (sbu s), .int (sni s)])), (2, .inl (false, 6, sce s)), (3, .inl (false, 6, she s)), (4, .inl (false, 6, stu s))]) _
  refine E_if_ne (tgt := 59) dX6_cover_53 (by decide) (fun _ => ?_) (fun c => (b2i_x1 hb c).elim)
  refine E_aload_n dX6_cover_59 rfl ?_
  refine E_iload_n dX6_cover_60 rfl ?_
  refine E_iload_n dX6_cover_61 rfl ?_
  refine E_callV (As := [.int (nI h), .int (nI g)]) (l' := [.ref 0, .int (nI h), .int (nI g), .null, .null, .null, .null, .null]) (st := []) dX6_cover_62 kX6_171 iX6_fewestCovered vX6_fewestCovered (by decide) rfl rfl MX6_fewestCovered rfl rfl (Nat.le_of_ble_eq_true rfl) (FC.use (c_fewest d rk s h g hh hg) rfl (L2 := [(0, .inr (6, [.ref 1, .ref 5, .ref 7, .ref 10, .ref 18, .ref 26, .ref 31, .ref 35, .ref 37, .int (nI rk)])), (1, .inr (0, [.ref 2, .ref 3, .ref 4, .int (skn s), .int (sdr s), .int (swa s), .int (sbu s), .int (sni s)])), (2, .inl (false, 6, sce s)), (3, .inl (false, 6, she s)), (4, .inl (false, 6, stu s))]) rfl) (Nat.le_of_ble_eq_true rfl) (fun _ _ hq9 => E_fgo ?_ hq9)
  show E _ _ 65 [.ref 0, .int (nI h), .int (nI g), .int 0, .null] [.int (fcB s h g)] (hov hp [(0, .inr (6, [.ref 1, .ref 5, .ref 7, .ref 10, .ref 18, .ref 26, .ref 31, .ref 35, .ref 37, .int (nI rk)])), (1, .inr (0, [.ref 2, .ref 3, .ref 4, .int (skn s), .int (sdr s), .int (swa s), .int (sbu s), .int (sni s)])), (2, .inl (false, 6, sce s)), (3, .inl (false, 6, she s)), (4, .inl (false, 6, stu s))]) _
  refine E_istore (l2 := [.ref 0, .int (nI h), .int (nI g), .int 0, .int (fcB s h g)]) dX6_cover_65 (by decide) rfl ?_
  refine E_iload dX6_cover_67 rfl ?_
  refine E_bipush (v := (-6)) dX6_cover_69 (by decide) ?_
  refine E_icmp_ne (tgt := 77) dX6_cover_71 (by decide) (fun _ => ?_) (fun c => absurd c hn)
  refine E_iload_n dX6_cover_77 rfl ?_
  refine E_if_ne (tgt := 89) dX6_cover_78 (by decide) (fun c => by first | exact absurd c (by decide) | exact absurd (by decide) c) (fun _ => ?_)
  refine E_iload dX6_cover_81 rfl ?_
  refine E_callS (As := [.int (fcB s h g)]) (l' := [.int (fcB s h g)]) (st := []) dX6_cover_83 kX6_95 sJ6_bitCount_0f7a4 MJ6_bitCount_0f7a4 rfl rfl (Nat.le_of_ble_eq_true rfl) (FC.use (c_bitCount (d + 4) _) rfl (L2 := [(0, .inr (6, [.ref 1, .ref 5, .ref 7, .ref 10, .ref 18, .ref 26, .ref 31, .ref 35, .ref 37, .int (nI rk)])), (1, .inr (0, [.ref 2, .ref 3, .ref 4, .int (skn s), .int (sdr s), .int (swa s), .int (sbu s), .int (sni s)])), (2, .inl (false, 6, sce s)), (3, .inl (false, 6, she s)), (4, .inl (false, 6, stu s))]) rfl) (Nat.le_of_ble_eq_true rfl) (fun _ _ hq9 => E_fgo ?_ hq9)
  show E _ _ 86 [.ref 0, .int (nI h), .int (nI g), .int 0, .int (fcB s h g)] [.int (bcI (fcB s h g))] (hov hp [(0, .inr (6, [.ref 1, .ref 5, .ref 7, .ref 10, .ref 18, .ref 26, .ref 31, .ref 35, .ref 37, .int (nI rk)])), (1, .inr (0, [.ref 2, .ref 3, .ref 4, .int (skn s), .int (sdr s), .int (swa s), .int (sbu s), .int (sni s)])), (2, .inl (false, 6, sce s)), (3, .inl (false, 6, she s)), (4, .inl (false, 6, stu s))]) _
  refine E_goto (tgt := 91) dX6_cover_86 (by decide) ?_
  exact E_iretf dX6_cover_91 rfl rfl rfl rfl

set_option maxHeartbeats 4000000 in
set_option maxRecDepth 20000 in
theorem t_cov_1 (d : Nat) (rk : Nat) (s : CS) (h g : Nat) (hh : h < 6) (hg : g < 6) (hne : ¬ nI h = nI g) (h1 : inL (Int32.toInt64 (nI h)) 0 5 = true) (h2 : inL (Int32.toInt64 (nI g)) 0 5 = true) (hv : inL (Int32.toInt64 1) 0 1 = true) (ha : decide (0 < she s h) = true) (hb : decide (0 < she s g) = true) (hn : ¬ fcB s h g = -6) : FC YX6_cover (d + 5) [.ref 0, .int (nI h), .int (nI g), .int 1, .null] [(0, .inr (6, [.ref 1, .ref 5, .ref 7, .ref 10, .ref 18, .ref 26, .ref 31, .ref 35, .ref 37, .int (nI rk)])), (1, .inr (0, [.ref 2, .ref 3, .ref 4, .int (skn s), .int (sdr s), .int (swa s), .int (sbu s), .int (sni s)])), (2, .inl (false, 6, sce s)), (3, .inl (false, 6, she s)), (4, .inl (false, 6, stu s))] (some (.int (fcB s h g))) [(0, .inr (6, [.ref 1, .ref 5, .ref 7, .ref 10, .ref 18, .ref 26, .ref 31, .ref 35, .ref 37, .int (nI rk)])), (1, .inr (0, [.ref 2, .ref 3, .ref 4, .int (skn s), .int (sdr s), .int (swa s), .int (sbu s), .int (sni s)])), (2, .inl (false, 6, sce s)), (3, .inl (false, 6, she s)), (4, .inl (false, 6, stu s))] := by
  intro hp
  refine E_iload_n dX6_cover_0 rfl ?_
  refine E_callS (As := [.int (nI h)]) (l' := [.int (nI h)]) (st := []) dX6_cover_1 kX6_65 sX6_isHeap MX6_isHeap rfl rfl (Nat.le_of_ble_eq_true rfl) (FC.use (c_isHeap (d + 3) _) rfl (L2 := [(0, .inr (6, [.ref 1, .ref 5, .ref 7, .ref 10, .ref 18, .ref 26, .ref 31, .ref 35, .ref 37, .int (nI rk)])), (1, .inr (0, [.ref 2, .ref 3, .ref 4, .int (skn s), .int (sdr s), .int (swa s), .int (sbu s), .int (sni s)])), (2, .inl (false, 6, sce s)), (3, .inl (false, 6, she s)), (4, .inl (false, 6, stu s))]) rfl) (Nat.le_of_ble_eq_true rfl) (fun _ _ hq9 => E_fgo ?_ hq9)
  show E _ _ 4 [.ref 0, .int (nI h), .int (nI g), .int 1, .null] [.int (b2i (inL (Int32.toInt64 (nI h)) 0 5))] (hov hp [(0, .inr (6, [.ref 1, .ref 5, .ref 7, .ref 10, .ref 18, .ref 26, .ref 31, .ref 35, .ref 37, .int (nI rk)])), (1, .inr (0, [.ref 2, .ref 3, .ref 4, .int (skn s), .int (sdr s), .int (swa s), .int (sbu s), .int (sni s)])), (2, .inl (false, 6, sce s)), (3, .inl (false, 6, she s)), (4, .inl (false, 6, stu s))]) _
  refine E_if_eq (tgt := 19) dX6_cover_4 (by decide) (fun c => (b2i_x1 h1 c).elim) (fun _ => ?_)
  refine E_iload_n dX6_cover_7 rfl ?_
  refine E_callS (As := [.int (nI g)]) (l' := [.int (nI g)]) (st := []) dX6_cover_8 kX6_65 sX6_isHeap MX6_isHeap rfl rfl (Nat.le_of_ble_eq_true rfl) (FC.use (c_isHeap (d + 3) _) rfl (L2 := [(0, .inr (6, [.ref 1, .ref 5, .ref 7, .ref 10, .ref 18, .ref 26, .ref 31, .ref 35, .ref 37, .int (nI rk)])), (1, .inr (0, [.ref 2, .ref 3, .ref 4, .int (skn s), .int (sdr s), .int (swa s), .int (sbu s), .int (sni s)])), (2, .inl (false, 6, sce s)), (3, .inl (false, 6, she s)), (4, .inl (false, 6, stu s))]) rfl) (Nat.le_of_ble_eq_true rfl) (fun _ _ hq9 => E_fgo ?_ hq9)
  show E _ _ 11 [.ref 0, .int (nI h), .int (nI g), .int 1, .null] [.int (b2i (inL (Int32.toInt64 (nI g)) 0 5))] (hov hp [(0, .inr (6, [.ref 1, .ref 5, .ref 7, .ref 10, .ref 18, .ref 26, .ref 31, .ref 35, .ref 37, .int (nI rk)])), (1, .inr (0, [.ref 2, .ref 3, .ref 4, .int (skn s), .int (sdr s), .int (swa s), .int (sbu s), .int (sni s)])), (2, .inl (false, 6, sce s)), (3, .inl (false, 6, she s)), (4, .inl (false, 6, stu s))]) _
  refine E_if_eq (tgt := 19) dX6_cover_11 (by decide) (fun c => (b2i_x1 h2 c).elim) (fun _ => ?_)
  refine E_iload_n dX6_cover_14 rfl ?_
  refine E_iload_n dX6_cover_15 rfl ?_
  refine E_icmp_ne (tgt := 21) dX6_cover_16 (by decide) (fun _ => ?_) (fun c => absurd c hne)
  refine E_iload_n dX6_cover_21 rfl ?_
  refine E_i2l dX6_cover_22 ?_
  refine E_lconst (v := 0) dX6_cover_23 (by decide) ?_
  refine E_lconst (v := 1) dX6_cover_24 (by decide) ?_
  refine E_callS (As := [.long (Int32.toInt64 1), .long 0, .long 1]) (l' := [.long (Int32.toInt64 1), .null, .long 0, .null, .long 1, .null]) (st := []) dX6_cover_25 kX6_73 sX6_isIn MX6_isIn rfl rfl (Nat.le_of_ble_eq_true rfl) (FC.use (c_isIn (d + 4) _ _ _) rfl (L2 := [(0, .inr (6, [.ref 1, .ref 5, .ref 7, .ref 10, .ref 18, .ref 26, .ref 31, .ref 35, .ref 37, .int (nI rk)])), (1, .inr (0, [.ref 2, .ref 3, .ref 4, .int (skn s), .int (sdr s), .int (swa s), .int (sbu s), .int (sni s)])), (2, .inl (false, 6, sce s)), (3, .inl (false, 6, she s)), (4, .inl (false, 6, stu s))]) rfl) (Nat.le_of_ble_eq_true rfl) (fun _ _ hq9 => E_fgo ?_ hq9)
  show E _ _ 28 [.ref 0, .int (nI h), .int (nI g), .int 1, .null] [.int (b2i (inL (Int32.toInt64 1) 0 1))] (hov hp [(0, .inr (6, [.ref 1, .ref 5, .ref 7, .ref 10, .ref 18, .ref 26, .ref 31, .ref 35, .ref 37, .int (nI rk)])), (1, .inr (0, [.ref 2, .ref 3, .ref 4, .int (skn s), .int (sdr s), .int (swa s), .int (sbu s), .int (sni s)])), (2, .inl (false, 6, sce s)), (3, .inl (false, 6, she s)), (4, .inl (false, 6, stu s))]) _
  refine E_if_ne (tgt := 34) dX6_cover_28 (by decide) (fun _ => ?_) (fun c => (b2i_x1 hv c).elim)
  refine E_aload_n dX6_cover_34 rfl ?_
  refine E_get dX6_cover_35 fX6_12 (by decide) rfl rfl ?_
  refine E_iload_n dX6_cover_38 rfl ?_
  refine E_callV (As := [.int (nI h)]) (l' := [.ref 1, .int (nI h)]) (st := []) dX6_cover_39 kX6_164 iX0_isAlight vX0_isAlight (by decide) rfl rfl MX0_isAlight rfl rfl (Nat.le_of_ble_eq_true rfl) (FC.use (c_isAlight_now (d + 4) (sce s) (she s) (stu s) (skn s) (sdr s) (swa s) (sbu s) (sni s) h (by omega)) rfl (L2 := [(0, .inr (6, [.ref 1, .ref 5, .ref 7, .ref 10, .ref 18, .ref 26, .ref 31, .ref 35, .ref 37, .int (nI rk)])), (1, .inr (0, [.ref 2, .ref 3, .ref 4, .int (skn s), .int (sdr s), .int (swa s), .int (sbu s), .int (sni s)])), (2, .inl (false, 6, sce s)), (3, .inl (false, 6, she s)), (4, .inl (false, 6, stu s))]) rfl) (Nat.le_of_ble_eq_true rfl) (fun _ _ hq9 => E_fgo ?_ hq9)
  show E _ _ 42 [.ref 0, .int (nI h), .int (nI g), .int 1, .null] [.int (b2i (decide (0 < she s h)))] (hov hp [(0, .inr (6, [.ref 1, .ref 5, .ref 7, .ref 10, .ref 18, .ref 26, .ref 31, .ref 35, .ref 37, .int (nI rk)])), (1, .inr (0, [.ref 2, .ref 3, .ref 4, .int (skn s), .int (sdr s), .int (swa s), .int (sbu s), .int (sni s)])), (2, .inl (false, 6, sce s)), (3, .inl (false, 6, she s)), (4, .inl (false, 6, stu s))]) _
  refine E_if_eq (tgt := 56) dX6_cover_42 (by decide) (fun c => (b2i_x1 ha c).elim) (fun _ => ?_)
  refine E_aload_n dX6_cover_45 rfl ?_
  refine E_get dX6_cover_46 fX6_12 (by decide) rfl rfl ?_
  refine E_iload_n dX6_cover_49 rfl ?_
  refine E_callV (As := [.int (nI g)]) (l' := [.ref 1, .int (nI g)]) (st := []) dX6_cover_50 kX6_164 iX0_isAlight vX0_isAlight (by decide) rfl rfl MX0_isAlight rfl rfl (Nat.le_of_ble_eq_true rfl) (FC.use (c_isAlight_now (d + 4) (sce s) (she s) (stu s) (skn s) (sdr s) (swa s) (sbu s) (sni s) g (by omega)) rfl (L2 := [(0, .inr (6, [.ref 1, .ref 5, .ref 7, .ref 10, .ref 18, .ref 26, .ref 31, .ref 35, .ref 37, .int (nI rk)])), (1, .inr (0, [.ref 2, .ref 3, .ref 4, .int (skn s), .int (sdr s), .int (swa s), .int (sbu s), .int (sni s)])), (2, .inl (false, 6, sce s)), (3, .inl (false, 6, she s)), (4, .inl (false, 6, stu s))]) rfl) (Nat.le_of_ble_eq_true rfl) (fun _ _ hq9 => E_fgo ?_ hq9)
  show E _ _ 53 [.ref 0, .int (nI h), .int (nI g), .int 1, .null] [.int (b2i (decide (0 < she s g)))] (hov hp [(0, .inr (6, [.ref 1, .ref 5, .ref 7, .ref 10, .ref 18, .ref 26, .ref 31, .ref 35, .ref 37, .int (nI rk)])), (1, .inr (0, [.ref 2, .ref 3, .ref 4, .int (skn s), .int (sdr s), .int (swa s), .int (sbu s), .int (sni s)])), (2, .inl (false, 6, sce s)), (3, .inl (false, 6, she s)), (4, .inl (false, 6, stu s))]) _
  refine E_if_ne (tgt := 59) dX6_cover_53 (by decide) (fun _ => ?_) (fun c => (b2i_x1 hb c).elim)
  refine E_aload_n dX6_cover_59 rfl ?_
  refine E_iload_n dX6_cover_60 rfl ?_
  refine E_iload_n dX6_cover_61 rfl ?_
  refine E_callV (As := [.int (nI h), .int (nI g)]) (l' := [.ref 0, .int (nI h), .int (nI g), .null, .null, .null, .null, .null]) (st := []) dX6_cover_62 kX6_171 iX6_fewestCovered vX6_fewestCovered (by decide) rfl rfl MX6_fewestCovered rfl rfl (Nat.le_of_ble_eq_true rfl) (FC.use (c_fewest d rk s h g hh hg) rfl (L2 := [(0, .inr (6, [.ref 1, .ref 5, .ref 7, .ref 10, .ref 18, .ref 26, .ref 31, .ref 35, .ref 37, .int (nI rk)])), (1, .inr (0, [.ref 2, .ref 3, .ref 4, .int (skn s), .int (sdr s), .int (swa s), .int (sbu s), .int (sni s)])), (2, .inl (false, 6, sce s)), (3, .inl (false, 6, she s)), (4, .inl (false, 6, stu s))]) rfl) (Nat.le_of_ble_eq_true rfl) (fun _ _ hq9 => E_fgo ?_ hq9)
  show E _ _ 65 [.ref 0, .int (nI h), .int (nI g), .int 1, .null] [.int (fcB s h g)] (hov hp [(0, .inr (6, [.ref 1, .ref 5, .ref 7, .ref 10, .ref 18, .ref 26, .ref 31, .ref 35, .ref 37, .int (nI rk)])), (1, .inr (0, [.ref 2, .ref 3, .ref 4, .int (skn s), .int (sdr s), .int (swa s), .int (sbu s), .int (sni s)])), (2, .inl (false, 6, sce s)), (3, .inl (false, 6, she s)), (4, .inl (false, 6, stu s))]) _
  refine E_istore (l2 := [.ref 0, .int (nI h), .int (nI g), .int 1, .int (fcB s h g)]) dX6_cover_65 (by decide) rfl ?_
  refine E_iload dX6_cover_67 rfl ?_
  refine E_bipush (v := (-6)) dX6_cover_69 (by decide) ?_
  refine E_icmp_ne (tgt := 77) dX6_cover_71 (by decide) (fun _ => ?_) (fun c => absurd c hn)
  refine E_iload_n dX6_cover_77 rfl ?_
  refine E_if_ne (tgt := 89) dX6_cover_78 (by decide) (fun _ => ?_) (fun c => by first | exact absurd c (by decide) | exact absurd (by decide) c)
  refine E_iload dX6_cover_89 rfl ?_
  exact E_iretf dX6_cover_91 rfl rfl rfl rfl
