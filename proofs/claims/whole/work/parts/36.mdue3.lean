set_option maxHeartbeats 4000000 in
set_option maxRecDepth 20000 in
theorem m_due_o1 (d : Nat) (bu fl fa fw fr rs ac : Int32) (q pn : Nat) (x n v : Int32) (z : Int64) (h0 : inI n 1 8 = false) : FC YX7_due (d + 2) [.ref 38, .int x, .long z, .null, .int n, .int v, .null, .null, .null, .null, .null, .null] [(38, .inr (7, [.ref 39, .ref 40, .int bu, .int (nI q), .ref 41, .int (nI pn), .ref 42, .int fl, .int fa, .int fw, .int fr, .int rs, .int ac, .ref 43, .ref 44, .ref 45, .ref 46, .ref 47, .ref 48, .ref 49]))] (some (.int (-2))) [(38, .inr (7, [.ref 39, .ref 40, .int bu, .int (nI q), .ref 41, .int (nI pn), .ref 42, .int fl, .int fa, .int fw, .int fr, .int rs, .int ac, .ref 43, .ref 44, .ref 45, .ref 46, .ref 47, .ref 48, .ref 49]))] := by
  intro hp
  refine E_iload dX7_due_0 rfl ?_
  refine E_iconst (v := 1) dX7_due_2 (by decide) ?_
  refine E_bipush (v := 8) dX7_due_3 (by decide) ?_
  refine E_callS (As := [.int n, .int 1, .int 8]) (l' := [.int n, .int 1, .int 8]) (st := []) dX7_due_5 kX7_48 sX7_in MX7_in rfl rfl (Nat.le_of_ble_eq_true rfl) (FC.use (c_in (d + 1) _ _ _) rfl (L2 := [(38, .inr (7, [.ref 39, .ref 40, .int bu, .int (nI q), .ref 41, .int (nI pn), .ref 42, .int fl, .int fa, .int fw, .int fr, .int rs, .int ac, .ref 43, .ref 44, .ref 45, .ref 46, .ref 47, .ref 48, .ref 49]))]) rfl) (Nat.le_of_ble_eq_true rfl) (fun _ _ hq9 => E_fgo ?_ hq9)
  show E _ _ 8 [.ref 38, .int x, .long z, .null, .int n, .int v, .null, .null, .null, .null, .null, .null] [.int (b2i (inI n 1 8))] (hov hp [(38, .inr (7, [.ref 39, .ref 40, .int bu, .int (nI q), .ref 41, .int (nI pn), .ref 42, .int fl, .int fa, .int fw, .int fr, .int rs, .int ac, .ref 43, .ref 44, .ref 45, .ref 46, .ref 47, .ref 48, .ref 49]))]) _
  refine E_if_eq (tgt := 35) dX7_due_8 (by decide) (fun _ => ?_) (fun c => (b2i_x0 h0 c).elim)
  refine E_iconst (v := 0) dX7_due_35 (by decide) ?_
  refine E_istore (l2 := [.ref 38, .int x, .long z, .null, .int n, .int v, .int 0, .null, .null, .null, .null, .null]) dX7_due_36 (by decide) rfl ?_
  refine E_iload_n dX7_due_38 rfl ?_
  refine E_istore (l2 := [.ref 38, .int x, .long z, .null, .int n, .int v, .int 0, .int x, .null, .null, .null, .null]) dX7_due_39 (by decide) rfl ?_
  refine E_lload_n dX7_due_41 rfl ?_
  refine E_lstore (l2 := [.ref 38, .int x, .long z, .null, .int n, .int v, .int 0, .int x, .long z, .null, .null, .null]) dX7_due_42 (by decide) rfl ?_
  refine E_iload dX7_due_44 rfl ?_
  refine E_iconst (v := 1) dX7_due_46 (by decide) ?_
  refine E_isub dX7_due_47 ?_
  refine E_istore (l2 := [.ref 38, .int x, .long z, .null, .int n, .int v, .int 0, .int x, .long z, .null, .int (n - 1), .null]) dX7_due_48 (by decide) rfl ?_
  refine E_iload dX7_due_50 rfl ?_
  refine E_if_lt (tgt := 124) dX7_due_52 (by decide) (fun c52 => ?_) (fun c52 => ?_)
  · refine E_iload dX7_due_124 rfl ?_
    refine E_if_eq (tgt := 141) dX7_due_126 (by decide) (fun _ => ?_) (fun c => by first | exact absurd c (by decide) | exact absurd (by decide) c)
    refine E_bipush (v := (-2)) dX7_due_141 (by decide) ?_
    exact E_iretf dX7_due_143 rfl rfl rfl rfl
  · refine E_iload dX7_due_55 rfl ?_
    refine E_if_eq (tgt := 124) dX7_due_57 (by decide) (fun _ => ?_) (fun c => by first | exact absurd c (by decide) | exact absurd (by decide) c)
    refine E_iload dX7_due_124 rfl ?_
    refine E_if_eq (tgt := 141) dX7_due_126 (by decide) (fun _ => ?_) (fun c => by first | exact absurd c (by decide) | exact absurd (by decide) c)
    refine E_bipush (v := (-2)) dX7_due_141 (by decide) ?_
    exact E_iretf dX7_due_143 rfl rfl rfl rfl

set_option maxHeartbeats 4000000 in
set_option maxRecDepth 20000 in
theorem m_due_o2 (d : Nat) (bu fl fa fw fr rs ac : Int32) (q pn : Nat) (x n v : Int32) (z : Int64) (h0 : inI n 1 8 = true) (hx : x ≤ 0) : FC YX7_due (d + 2) [.ref 38, .int x, .long z, .null, .int n, .int v, .null, .null, .null, .null, .null, .null] [(38, .inr (7, [.ref 39, .ref 40, .int bu, .int (nI q), .ref 41, .int (nI pn), .ref 42, .int fl, .int fa, .int fw, .int fr, .int rs, .int ac, .ref 43, .ref 44, .ref 45, .ref 46, .ref 47, .ref 48, .ref 49]))] (some (.int (-2))) [(38, .inr (7, [.ref 39, .ref 40, .int bu, .int (nI q), .ref 41, .int (nI pn), .ref 42, .int fl, .int fa, .int fw, .int fr, .int rs, .int ac, .ref 43, .ref 44, .ref 45, .ref 46, .ref 47, .ref 48, .ref 49]))] := by
  intro hp
  refine E_iload dX7_due_0 rfl ?_
  refine E_iconst (v := 1) dX7_due_2 (by decide) ?_
  refine E_bipush (v := 8) dX7_due_3 (by decide) ?_
  refine E_callS (As := [.int n, .int 1, .int 8]) (l' := [.int n, .int 1, .int 8]) (st := []) dX7_due_5 kX7_48 sX7_in MX7_in rfl rfl (Nat.le_of_ble_eq_true rfl) (FC.use (c_in (d + 1) _ _ _) rfl (L2 := [(38, .inr (7, [.ref 39, .ref 40, .int bu, .int (nI q), .ref 41, .int (nI pn), .ref 42, .int fl, .int fa, .int fw, .int fr, .int rs, .int ac, .ref 43, .ref 44, .ref 45, .ref 46, .ref 47, .ref 48, .ref 49]))]) rfl) (Nat.le_of_ble_eq_true rfl) (fun _ _ hq9 => E_fgo ?_ hq9)
  show E _ _ 8 [.ref 38, .int x, .long z, .null, .int n, .int v, .null, .null, .null, .null, .null, .null] [.int (b2i (inI n 1 8))] (hov hp [(38, .inr (7, [.ref 39, .ref 40, .int bu, .int (nI q), .ref 41, .int (nI pn), .ref 42, .int fl, .int fa, .int fw, .int fr, .int rs, .int ac, .ref 43, .ref 44, .ref 45, .ref 46, .ref 47, .ref 48, .ref 49]))]) _
  refine E_if_eq (tgt := 35) dX7_due_8 (by decide) (fun c => (b2i_x1 h0 c).elim) (fun _ => ?_)
  refine E_iload_n dX7_due_11 rfl ?_
  refine E_if_le (tgt := 35) dX7_due_12 (by decide) (fun _ => ?_) (fun c => absurd hx c)
  refine E_iconst (v := 0) dX7_due_35 (by decide) ?_
  refine E_istore (l2 := [.ref 38, .int x, .long z, .null, .int n, .int v, .int 0, .null, .null, .null, .null, .null]) dX7_due_36 (by decide) rfl ?_
  refine E_iload_n dX7_due_38 rfl ?_
  refine E_istore (l2 := [.ref 38, .int x, .long z, .null, .int n, .int v, .int 0, .int x, .null, .null, .null, .null]) dX7_due_39 (by decide) rfl ?_
  refine E_lload_n dX7_due_41 rfl ?_
  refine E_lstore (l2 := [.ref 38, .int x, .long z, .null, .int n, .int v, .int 0, .int x, .long z, .null, .null, .null]) dX7_due_42 (by decide) rfl ?_
  refine E_iload dX7_due_44 rfl ?_
  refine E_iconst (v := 1) dX7_due_46 (by decide) ?_
  refine E_isub dX7_due_47 ?_
  refine E_istore (l2 := [.ref 38, .int x, .long z, .null, .int n, .int v, .int 0, .int x, .long z, .null, .int (n - 1), .null]) dX7_due_48 (by decide) rfl ?_
  refine E_iload dX7_due_50 rfl ?_
  refine E_if_lt (tgt := 124) dX7_due_52 (by decide) (fun c52 => ?_) (fun c52 => ?_)
  · refine E_iload dX7_due_124 rfl ?_
    refine E_if_eq (tgt := 141) dX7_due_126 (by decide) (fun _ => ?_) (fun c => by first | exact absurd c (by decide) | exact absurd (by decide) c)
    refine E_bipush (v := (-2)) dX7_due_141 (by decide) ?_
    exact E_iretf dX7_due_143 rfl rfl rfl rfl
  · refine E_iload dX7_due_55 rfl ?_
    refine E_if_eq (tgt := 124) dX7_due_57 (by decide) (fun _ => ?_) (fun c => by first | exact absurd c (by decide) | exact absurd (by decide) c)
    refine E_iload dX7_due_124 rfl ?_
    refine E_if_eq (tgt := 141) dX7_due_126 (by decide) (fun _ => ?_) (fun c => by first | exact absurd c (by decide) | exact absurd (by decide) c)
    refine E_bipush (v := (-2)) dX7_due_141 (by decide) ?_
    exact E_iretf dX7_due_143 rfl rfl rfl rfl

set_option maxHeartbeats 4000000 in
set_option maxRecDepth 20000 in
theorem m_due_o3 (d : Nat) (bu fl fa fw fr rs ac : Int32) (q pn : Nat) (x n v : Int32) (z : Int64) (h0 : inI n 1 8 = true) (hx : ¬ x ≤ 0) (hz : z < 0) : FC YX7_due (d + 2) [.ref 38, .int x, .long z, .null, .int n, .int v, .null, .null, .null, .null, .null, .null] [(38, .inr (7, [.ref 39, .ref 40, .int bu, .int (nI q), .ref 41, .int (nI pn), .ref 42, .int fl, .int fa, .int fw, .int fr, .int rs, .int ac, .ref 43, .ref 44, .ref 45, .ref 46, .ref 47, .ref 48, .ref 49]))] (some (.int (-2))) [(38, .inr (7, [.ref 39, .ref 40, .int bu, .int (nI q), .ref 41, .int (nI pn), .ref 42, .int fl, .int fa, .int fw, .int fr, .int rs, .int ac, .ref 43, .ref 44, .ref 45, .ref 46, .ref 47, .ref 48, .ref 49]))] := by
  intro hp
  refine E_iload dX7_due_0 rfl ?_
  refine E_iconst (v := 1) dX7_due_2 (by decide) ?_
  refine E_bipush (v := 8) dX7_due_3 (by decide) ?_
  refine E_callS (As := [.int n, .int 1, .int 8]) (l' := [.int n, .int 1, .int 8]) (st := []) dX7_due_5 kX7_48 sX7_in MX7_in rfl rfl (Nat.le_of_ble_eq_true rfl) (FC.use (c_in (d + 1) _ _ _) rfl (L2 := [(38, .inr (7, [.ref 39, .ref 40, .int bu, .int (nI q), .ref 41, .int (nI pn), .ref 42, .int fl, .int fa, .int fw, .int fr, .int rs, .int ac, .ref 43, .ref 44, .ref 45, .ref 46, .ref 47, .ref 48, .ref 49]))]) rfl) (Nat.le_of_ble_eq_true rfl) (fun _ _ hq9 => E_fgo ?_ hq9)
  show E _ _ 8 [.ref 38, .int x, .long z, .null, .int n, .int v, .null, .null, .null, .null, .null, .null] [.int (b2i (inI n 1 8))] (hov hp [(38, .inr (7, [.ref 39, .ref 40, .int bu, .int (nI q), .ref 41, .int (nI pn), .ref 42, .int fl, .int fa, .int fw, .int fr, .int rs, .int ac, .ref 43, .ref 44, .ref 45, .ref 46, .ref 47, .ref 48, .ref 49]))]) _
  refine E_if_eq (tgt := 35) dX7_due_8 (by decide) (fun c => (b2i_x1 h0 c).elim) (fun _ => ?_)
  refine E_iload_n dX7_due_11 rfl ?_
  refine E_if_le (tgt := 35) dX7_due_12 (by decide) (fun c => absurd c hx) (fun _ => ?_)
  refine E_lload_n dX7_due_15 rfl ?_
  refine E_lconst (v := 0) dX7_due_16 (by decide) ?_
  refine E_lcmp dX7_due_17 ?_
  refine E_if_lt (tgt := 35) dX7_due_18 (by decide) (fun _ => ?_) (fun c => absurd ((lg_cmp_lt _ _).mpr hz) c)
  refine E_iconst (v := 0) dX7_due_35 (by decide) ?_
  refine E_istore (l2 := [.ref 38, .int x, .long z, .null, .int n, .int v, .int 0, .null, .null, .null, .null, .null]) dX7_due_36 (by decide) rfl ?_
  refine E_iload_n dX7_due_38 rfl ?_
  refine E_istore (l2 := [.ref 38, .int x, .long z, .null, .int n, .int v, .int 0, .int x, .null, .null, .null, .null]) dX7_due_39 (by decide) rfl ?_
  refine E_lload_n dX7_due_41 rfl ?_
  refine E_lstore (l2 := [.ref 38, .int x, .long z, .null, .int n, .int v, .int 0, .int x, .long z, .null, .null, .null]) dX7_due_42 (by decide) rfl ?_
  refine E_iload dX7_due_44 rfl ?_
  refine E_iconst (v := 1) dX7_due_46 (by decide) ?_
  refine E_isub dX7_due_47 ?_
  refine E_istore (l2 := [.ref 38, .int x, .long z, .null, .int n, .int v, .int 0, .int x, .long z, .null, .int (n - 1), .null]) dX7_due_48 (by decide) rfl ?_
  refine E_iload dX7_due_50 rfl ?_
  refine E_if_lt (tgt := 124) dX7_due_52 (by decide) (fun c52 => ?_) (fun c52 => ?_)
  · refine E_iload dX7_due_124 rfl ?_
    refine E_if_eq (tgt := 141) dX7_due_126 (by decide) (fun _ => ?_) (fun c => by first | exact absurd c (by decide) | exact absurd (by decide) c)
    refine E_bipush (v := (-2)) dX7_due_141 (by decide) ?_
    exact E_iretf dX7_due_143 rfl rfl rfl rfl
  · refine E_iload dX7_due_55 rfl ?_
    refine E_if_eq (tgt := 124) dX7_due_57 (by decide) (fun _ => ?_) (fun c => by first | exact absurd c (by decide) | exact absurd (by decide) c)
    refine E_iload dX7_due_124 rfl ?_
    refine E_if_eq (tgt := 141) dX7_due_126 (by decide) (fun _ => ?_) (fun c => by first | exact absurd c (by decide) | exact absurd (by decide) c)
    refine E_bipush (v := (-2)) dX7_due_141 (by decide) ?_
    exact E_iretf dX7_due_143 rfl rfl rfl rfl

set_option maxHeartbeats 4000000 in
set_option maxRecDepth 20000 in
theorem m_due_o4 (d : Nat) (bu fl fa fw fr rs ac : Int32) (q pn : Nat) (x n v : Int32) (z : Int64) (h0 : inI n 1 8 = true) (hx : ¬ x ≤ 0) (hz : ¬ z < 0) (h1 : inI v 0 1 = false) : FC YX7_due (d + 2) [.ref 38, .int x, .long z, .null, .int n, .int v, .null, .null, .null, .null, .null, .null] [(38, .inr (7, [.ref 39, .ref 40, .int bu, .int (nI q), .ref 41, .int (nI pn), .ref 42, .int fl, .int fa, .int fw, .int fr, .int rs, .int ac, .ref 43, .ref 44, .ref 45, .ref 46, .ref 47, .ref 48, .ref 49]))] (some (.int (-2))) [(38, .inr (7, [.ref 39, .ref 40, .int bu, .int (nI q), .ref 41, .int (nI pn), .ref 42, .int fl, .int fa, .int fw, .int fr, .int rs, .int ac, .ref 43, .ref 44, .ref 45, .ref 46, .ref 47, .ref 48, .ref 49]))] := by
  intro hp
  refine E_iload dX7_due_0 rfl ?_
  refine E_iconst (v := 1) dX7_due_2 (by decide) ?_
  refine E_bipush (v := 8) dX7_due_3 (by decide) ?_
  refine E_callS (As := [.int n, .int 1, .int 8]) (l' := [.int n, .int 1, .int 8]) (st := []) dX7_due_5 kX7_48 sX7_in MX7_in rfl rfl (Nat.le_of_ble_eq_true rfl) (FC.use (c_in (d + 1) _ _ _) rfl (L2 := [(38, .inr (7, [.ref 39, .ref 40, .int bu, .int (nI q), .ref 41, .int (nI pn), .ref 42, .int fl, .int fa, .int fw, .int fr, .int rs, .int ac, .ref 43, .ref 44, .ref 45, .ref 46, .ref 47, .ref 48, .ref 49]))]) rfl) (Nat.le_of_ble_eq_true rfl) (fun _ _ hq9 => E_fgo ?_ hq9)
  show E _ _ 8 [.ref 38, .int x, .long z, .null, .int n, .int v, .null, .null, .null, .null, .null, .null] [.int (b2i (inI n 1 8))] (hov hp [(38, .inr (7, [.ref 39, .ref 40, .int bu, .int (nI q), .ref 41, .int (nI pn), .ref 42, .int fl, .int fa, .int fw, .int fr, .int rs, .int ac, .ref 43, .ref 44, .ref 45, .ref 46, .ref 47, .ref 48, .ref 49]))]) _
  refine E_if_eq (tgt := 35) dX7_due_8 (by decide) (fun c => (b2i_x1 h0 c).elim) (fun _ => ?_)
  refine E_iload_n dX7_due_11 rfl ?_
  refine E_if_le (tgt := 35) dX7_due_12 (by decide) (fun c => absurd c hx) (fun _ => ?_)
  refine E_lload_n dX7_due_15 rfl ?_
  refine E_lconst (v := 0) dX7_due_16 (by decide) ?_
  refine E_lcmp dX7_due_17 ?_
  refine E_if_lt (tgt := 35) dX7_due_18 (by decide) (fun c => absurd ((lg_cmp_lt _ _).mp c) hz) (fun _ => ?_)
  refine E_iload dX7_due_21 rfl ?_
  refine E_iconst (v := 0) dX7_due_23 (by decide) ?_
  refine E_iconst (v := 1) dX7_due_24 (by decide) ?_
  refine E_callS (As := [.int v, .int 0, .int 1]) (l' := [.int v, .int 0, .int 1]) (st := []) dX7_due_25 kX7_48 sX7_in MX7_in rfl rfl (Nat.le_of_ble_eq_true rfl) (FC.use (c_in (d + 1) _ _ _) rfl (L2 := [(38, .inr (7, [.ref 39, .ref 40, .int bu, .int (nI q), .ref 41, .int (nI pn), .ref 42, .int fl, .int fa, .int fw, .int fr, .int rs, .int ac, .ref 43, .ref 44, .ref 45, .ref 46, .ref 47, .ref 48, .ref 49]))]) rfl) (Nat.le_of_ble_eq_true rfl) (fun _ _ hq9 => E_fgo ?_ hq9)
  show E _ _ 28 [.ref 38, .int x, .long z, .null, .int n, .int v, .null, .null, .null, .null, .null, .null] [.int (b2i (inI v 0 1))] (hov hp [(38, .inr (7, [.ref 39, .ref 40, .int bu, .int (nI q), .ref 41, .int (nI pn), .ref 42, .int fl, .int fa, .int fw, .int fr, .int rs, .int ac, .ref 43, .ref 44, .ref 45, .ref 46, .ref 47, .ref 48, .ref 49]))]) _
  refine E_if_eq (tgt := 35) dX7_due_28 (by decide) (fun _ => ?_) (fun c => (b2i_x0 h1 c).elim)
  refine E_iconst (v := 0) dX7_due_35 (by decide) ?_
  refine E_istore (l2 := [.ref 38, .int x, .long z, .null, .int n, .int v, .int 0, .null, .null, .null, .null, .null]) dX7_due_36 (by decide) rfl ?_
  refine E_iload_n dX7_due_38 rfl ?_
  refine E_istore (l2 := [.ref 38, .int x, .long z, .null, .int n, .int v, .int 0, .int x, .null, .null, .null, .null]) dX7_due_39 (by decide) rfl ?_
  refine E_lload_n dX7_due_41 rfl ?_
  refine E_lstore (l2 := [.ref 38, .int x, .long z, .null, .int n, .int v, .int 0, .int x, .long z, .null, .null, .null]) dX7_due_42 (by decide) rfl ?_
  refine E_iload dX7_due_44 rfl ?_
  refine E_iconst (v := 1) dX7_due_46 (by decide) ?_
  refine E_isub dX7_due_47 ?_
  refine E_istore (l2 := [.ref 38, .int x, .long z, .null, .int n, .int v, .int 0, .int x, .long z, .null, .int (n - 1), .null]) dX7_due_48 (by decide) rfl ?_
  refine E_iload dX7_due_50 rfl ?_
  refine E_if_lt (tgt := 124) dX7_due_52 (by decide) (fun c52 => ?_) (fun c52 => ?_)
  · refine E_iload dX7_due_124 rfl ?_
    refine E_if_eq (tgt := 141) dX7_due_126 (by decide) (fun _ => ?_) (fun c => by first | exact absurd c (by decide) | exact absurd (by decide) c)
    refine E_bipush (v := (-2)) dX7_due_141 (by decide) ?_
    exact E_iretf dX7_due_143 rfl rfl rfl rfl
  · refine E_iload dX7_due_55 rfl ?_
    refine E_if_eq (tgt := 124) dX7_due_57 (by decide) (fun _ => ?_) (fun c => by first | exact absurd c (by decide) | exact absurd (by decide) c)
    refine E_iload dX7_due_124 rfl ?_
    refine E_if_eq (tgt := 141) dX7_due_126 (by decide) (fun _ => ?_) (fun c => by first | exact absurd c (by decide) | exact absurd (by decide) c)
    refine E_bipush (v := (-2)) dX7_due_141 (by decide) ?_
    exact E_iretf dX7_due_143 rfl rfl rfl rfl
