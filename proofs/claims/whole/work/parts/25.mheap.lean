/-! the reference's calls: heaps, pad, sights, images -/
def puS (s : CS) (h : Nat) (c t u : Int32) : CS := mkS (upd (sce s) h c) (upd (she s) h t) (upd (stu s) h u) (skn s) (offB (sdr s) h) (offB (swa s) h) (sbu s) (sni s)
def kpF (k0 k1 : Bool) : Nat → Int32 := fun j => if j = 0 then b2i k0 else if j = 1 then b2i k1 else 0
theorem kp_0 {k0 k1 : Bool} : upd (kpF k0 k1) 0 (vp_nar .boolean 1) = kpF true k1 := by
  funext j; simp only [upd, kpF]; by_cases e : j = 0
  · rw [if_pos e, if_pos e]; rfl
  · rw [if_neg e, if_neg e, if_neg e]
theorem kp_1 {k0 k1 : Bool} : upd (kpF k0 k1) 1 (vp_nar .boolean 1) = kpF k0 true := by
  funext j; simp only [upd, kpF]; by_cases e : j = 1
  · rw [if_pos e, if_neg (by omega), if_pos e]; rfl
  · rw [if_neg e]; by_cases z : j = 0
    · rw [if_pos z, if_pos z]
    · rw [if_neg z, if_neg z, if_neg e, if_neg e]
theorem cJ_le {i n : Nat} {c : Int32} (hc : c = nI n) (h : i ≤ n) (hn : n < 2 ^ 31) : nI i ≤ c := by rw [hc]; exact nI_le h hn
theorem ne_nI {a b : Nat} {c : Int32} (hc : c = nI b) (h : ¬ a = b) (ha : a < 2 ^ 31) (hb : b < 2 ^ 31) : ¬ nI a = c := by
  rw [hc]; exact fun e => h (nI_inj ha hb e)

set_option maxHeartbeats 4000000 in
set_option maxRecDepth 20000 in
theorem m_heap_unkA (d : Nat) (bu fl fa fw fr rs ac : Int32) (q n : Nat) (x c t u : Int32) (hv : inI x 0 5 = false) : FC YX7_heap (d + 2) [.ref 38, .int x, .int c, .int t, .int u, .null] [(38, .inr (7, [.ref 39, .ref 40, .int bu, .int (nI q), .ref 41, .int (nI n), .ref 42, .int fl, .int fa, .int fw, .int fr, .int rs, .int ac, .ref 43, .ref 44, .ref 45, .ref 46, .ref 47, .ref 48, .ref 49]))] (some (.int (-1))) [(38, .inr (7, [.ref 39, .ref 40, .int bu, .int (nI q), .ref 41, .int (nI n), .ref 42, .int fl, .int fa, .int fw, .int fr, .int rs, .int ac, .ref 43, .ref 44, .ref 45, .ref 46, .ref 47, .ref 48, .ref 49]))] := by
  intro hp
  refine E_iload_n dX7_heap_0 rfl ?_
  refine E_callS (As := [.int x]) (l' := [.int x]) (st := []) dX7_heap_1 kX7_52 sX7_isHeap MX7_isHeap rfl rfl (Nat.le_of_ble_eq_true rfl) (FC.use (c_isHM d _) rfl (L2 := [(38, .inr (7, [.ref 39, .ref 40, .int bu, .int (nI q), .ref 41, .int (nI n), .ref 42, .int fl, .int fa, .int fw, .int fr, .int rs, .int ac, .ref 43, .ref 44, .ref 45, .ref 46, .ref 47, .ref 48, .ref 49]))]) rfl) (Nat.le_of_ble_eq_true rfl) (fun _ _ hq9 => E_fgo ?_ hq9)
  show E _ _ 4 [.ref 38, .int x, .int c, .int t, .int u, .null] [.int (b2i (inI x 0 5))] (hov hp [(38, .inr (7, [.ref 39, .ref 40, .int bu, .int (nI q), .ref 41, .int (nI n), .ref 42, .int fl, .int fa, .int fw, .int fr, .int rs, .int ac, .ref 43, .ref 44, .ref 45, .ref 46, .ref 47, .ref 48, .ref 49]))]) _
  refine E_if_eq (tgt := 17) dX7_heap_4 (by decide) (fun _ => ?_) (fun c => (b2i_x0 hv c).elim)
  refine E_iconst (v := (-1)) dX7_heap_17 (by decide) ?_
  exact E_iretf dX7_heap_18 rfl rfl rfl rfl

set_option maxHeartbeats 4000000 in
set_option maxRecDepth 20000 in
theorem m_heap_unkB (d : Nat) (bu fl fa fw fr rs ac : Int32) (q n : Nat) (x c t u : Int32) (hv : inI x 0 5 = true) (hc : inI c (-1) 24 = false) : FC YX7_heap (d + 2) [.ref 38, .int x, .int c, .int t, .int u, .null] [(38, .inr (7, [.ref 39, .ref 40, .int bu, .int (nI q), .ref 41, .int (nI n), .ref 42, .int fl, .int fa, .int fw, .int fr, .int rs, .int ac, .ref 43, .ref 44, .ref 45, .ref 46, .ref 47, .ref 48, .ref 49]))] (some (.int (-1))) [(38, .inr (7, [.ref 39, .ref 40, .int bu, .int (nI q), .ref 41, .int (nI n), .ref 42, .int fl, .int fa, .int fw, .int fr, .int rs, .int ac, .ref 43, .ref 44, .ref 45, .ref 46, .ref 47, .ref 48, .ref 49]))] := by
  intro hp
  refine E_iload_n dX7_heap_0 rfl ?_
  refine E_callS (As := [.int x]) (l' := [.int x]) (st := []) dX7_heap_1 kX7_52 sX7_isHeap MX7_isHeap rfl rfl (Nat.le_of_ble_eq_true rfl) (FC.use (c_isHM d _) rfl (L2 := [(38, .inr (7, [.ref 39, .ref 40, .int bu, .int (nI q), .ref 41, .int (nI n), .ref 42, .int fl, .int fa, .int fw, .int fr, .int rs, .int ac, .ref 43, .ref 44, .ref 45, .ref 46, .ref 47, .ref 48, .ref 49]))]) rfl) (Nat.le_of_ble_eq_true rfl) (fun _ _ hq9 => E_fgo ?_ hq9)
  show E _ _ 4 [.ref 38, .int x, .int c, .int t, .int u, .null] [.int (b2i (inI x 0 5))] (hov hp [(38, .inr (7, [.ref 39, .ref 40, .int bu, .int (nI q), .ref 41, .int (nI n), .ref 42, .int fl, .int fa, .int fw, .int fr, .int rs, .int ac, .ref 43, .ref 44, .ref 45, .ref 46, .ref 47, .ref 48, .ref 49]))]) _
  refine E_if_eq (tgt := 17) dX7_heap_4 (by decide) (fun c => (b2i_x1 hv c).elim) (fun _ => ?_)
  refine E_iload_n dX7_heap_7 rfl ?_
  refine E_iconst (v := (-1)) dX7_heap_8 (by decide) ?_
  refine E_bipush (v := 24) dX7_heap_9 (by decide) ?_
  refine E_callS (As := [.int c, .int (-1), .int 24]) (l' := [.int c, .int (-1), .int 24]) (st := []) dX7_heap_11 kX7_48 sX7_in MX7_in rfl rfl (Nat.le_of_ble_eq_true rfl) (FC.use (c_in (d + 1) _ _ _) rfl (L2 := [(38, .inr (7, [.ref 39, .ref 40, .int bu, .int (nI q), .ref 41, .int (nI n), .ref 42, .int fl, .int fa, .int fw, .int fr, .int rs, .int ac, .ref 43, .ref 44, .ref 45, .ref 46, .ref 47, .ref 48, .ref 49]))]) rfl) (Nat.le_of_ble_eq_true rfl) (fun _ _ hq9 => E_fgo ?_ hq9)
  show E _ _ 14 [.ref 38, .int x, .int c, .int t, .int u, .null] [.int (b2i (inI c (-1) 24))] (hov hp [(38, .inr (7, [.ref 39, .ref 40, .int bu, .int (nI q), .ref 41, .int (nI n), .ref 42, .int fl, .int fa, .int fw, .int fr, .int rs, .int ac, .ref 43, .ref 44, .ref 45, .ref 46, .ref 47, .ref 48, .ref 49]))]) _
  refine E_if_ne (tgt := 19) dX7_heap_14 (by decide) (fun c => (b2i_x0 hc c).elim) (fun _ => ?_)
  refine E_iconst (v := (-1)) dX7_heap_17 (by decide) ?_
  exact E_iretf dX7_heap_18 rfl rfl rfl rfl

set_option maxHeartbeats 4000000 in
set_option maxRecDepth 20000 in
theorem m_heap_outA_neg (d : Nat) (bu fl fa fw fr rs ac : Int32) (q n : Nat) (x c t u : Int32) (hv : inI x 0 5 = true) (hc : inI c (-1) 24 = true) (hs : ¬ 0 ≤ c) (h1 : inI t 0 0 = false) : FC YX7_heap (d + 2) [.ref 38, .int x, .int c, .int t, .int u, .null] [(38, .inr (7, [.ref 39, .ref 40, .int bu, .int (nI q), .ref 41, .int (nI n), .ref 42, .int fl, .int fa, .int fw, .int fr, .int rs, .int ac, .ref 43, .ref 44, .ref 45, .ref 46, .ref 47, .ref 48, .ref 49]))] (some (.int (-2))) [(38, .inr (7, [.ref 39, .ref 40, .int bu, .int (nI q), .ref 41, .int (nI n), .ref 42, .int fl, .int fa, .int fw, .int fr, .int rs, .int ac, .ref 43, .ref 44, .ref 45, .ref 46, .ref 47, .ref 48, .ref 49]))] := by
  intro hp
  refine E_iload_n dX7_heap_0 rfl ?_
  refine E_callS (As := [.int x]) (l' := [.int x]) (st := []) dX7_heap_1 kX7_52 sX7_isHeap MX7_isHeap rfl rfl (Nat.le_of_ble_eq_true rfl) (FC.use (c_isHM d _) rfl (L2 := [(38, .inr (7, [.ref 39, .ref 40, .int bu, .int (nI q), .ref 41, .int (nI n), .ref 42, .int fl, .int fa, .int fw, .int fr, .int rs, .int ac, .ref 43, .ref 44, .ref 45, .ref 46, .ref 47, .ref 48, .ref 49]))]) rfl) (Nat.le_of_ble_eq_true rfl) (fun _ _ hq9 => E_fgo ?_ hq9)
  show E _ _ 4 [.ref 38, .int x, .int c, .int t, .int u, .null] [.int (b2i (inI x 0 5))] (hov hp [(38, .inr (7, [.ref 39, .ref 40, .int bu, .int (nI q), .ref 41, .int (nI n), .ref 42, .int fl, .int fa, .int fw, .int fr, .int rs, .int ac, .ref 43, .ref 44, .ref 45, .ref 46, .ref 47, .ref 48, .ref 49]))]) _
  refine E_if_eq (tgt := 17) dX7_heap_4 (by decide) (fun c => (b2i_x1 hv c).elim) (fun _ => ?_)
  refine E_iload_n dX7_heap_7 rfl ?_
  refine E_iconst (v := (-1)) dX7_heap_8 (by decide) ?_
  refine E_bipush (v := 24) dX7_heap_9 (by decide) ?_
  refine E_callS (As := [.int c, .int (-1), .int 24]) (l' := [.int c, .int (-1), .int 24]) (st := []) dX7_heap_11 kX7_48 sX7_in MX7_in rfl rfl (Nat.le_of_ble_eq_true rfl) (FC.use (c_in (d + 1) _ _ _) rfl (L2 := [(38, .inr (7, [.ref 39, .ref 40, .int bu, .int (nI q), .ref 41, .int (nI n), .ref 42, .int fl, .int fa, .int fw, .int fr, .int rs, .int ac, .ref 43, .ref 44, .ref 45, .ref 46, .ref 47, .ref 48, .ref 49]))]) rfl) (Nat.le_of_ble_eq_true rfl) (fun _ _ hq9 => E_fgo ?_ hq9)
  show E _ _ 14 [.ref 38, .int x, .int c, .int t, .int u, .null] [.int (b2i (inI c (-1) 24))] (hov hp [(38, .inr (7, [.ref 39, .ref 40, .int bu, .int (nI q), .ref 41, .int (nI n), .ref 42, .int fl, .int fa, .int fw, .int fr, .int rs, .int ac, .ref 43, .ref 44, .ref 45, .ref 46, .ref 47, .ref 48, .ref 49]))]) _
  refine E_if_ne (tgt := 19) dX7_heap_14 (by decide) (fun _ => ?_) (fun c => (b2i_x1 hc c).elim)
  refine E_iload_n dX7_heap_19 rfl ?_
  refine E_iconst (v := 0) dX7_heap_20 (by decide) ?_
  refine E_iload_n dX7_heap_21 rfl ?_
  refine E_if_ge (tgt := 29) dX7_heap_22 (by decide) (fun c => absurd c hs) (fun _ => ?_)
  refine E_iconst (v := 0) dX7_heap_25 (by decide) ?_
  refine E_goto (tgt := 31) dX7_heap_26 (by decide) ?_
  refine E_callS (As := [.int t, .int 0, .int 0]) (l' := [.int t, .int 0, .int 0]) (st := []) dX7_heap_31 kX7_48 sX7_in MX7_in rfl rfl (Nat.le_of_ble_eq_true rfl) (FC.use (c_in (d + 1) _ _ _) rfl (L2 := [(38, .inr (7, [.ref 39, .ref 40, .int bu, .int (nI q), .ref 41, .int (nI n), .ref 42, .int fl, .int fa, .int fw, .int fr, .int rs, .int ac, .ref 43, .ref 44, .ref 45, .ref 46, .ref 47, .ref 48, .ref 49]))]) rfl) (Nat.le_of_ble_eq_true rfl) (fun _ _ hq9 => E_fgo ?_ hq9)
  show E _ _ 34 [.ref 38, .int x, .int c, .int t, .int u, .null] [.int (b2i (inI t 0 0))] (hov hp [(38, .inr (7, [.ref 39, .ref 40, .int bu, .int (nI q), .ref 41, .int (nI n), .ref 42, .int fl, .int fa, .int fw, .int fr, .int rs, .int ac, .ref 43, .ref 44, .ref 45, .ref 46, .ref 47, .ref 48, .ref 49]))]) _
  refine E_if_eq (tgt := 48) dX7_heap_34 (by decide) (fun _ => ?_) (fun c => (b2i_x0 h1 c).elim)
  refine E_bipush (v := (-2)) dX7_heap_48 (by decide) ?_
  exact E_iretf dX7_heap_50 rfl rfl rfl rfl

set_option maxHeartbeats 4000000 in
set_option maxRecDepth 20000 in
theorem m_heap_outB_neg (d : Nat) (bu fl fa fw fr rs ac : Int32) (q n : Nat) (x c t u : Int32) (hv : inI x 0 5 = true) (hc : inI c (-1) 24 = true) (hs : ¬ 0 ≤ c) (h1 : inI t 0 0 = true) (h2 : inI u 0 9 = false) : FC YX7_heap (d + 2) [.ref 38, .int x, .int c, .int t, .int u, .null] [(38, .inr (7, [.ref 39, .ref 40, .int bu, .int (nI q), .ref 41, .int (nI n), .ref 42, .int fl, .int fa, .int fw, .int fr, .int rs, .int ac, .ref 43, .ref 44, .ref 45, .ref 46, .ref 47, .ref 48, .ref 49]))] (some (.int (-2))) [(38, .inr (7, [.ref 39, .ref 40, .int bu, .int (nI q), .ref 41, .int (nI n), .ref 42, .int fl, .int fa, .int fw, .int fr, .int rs, .int ac, .ref 43, .ref 44, .ref 45, .ref 46, .ref 47, .ref 48, .ref 49]))] := by
  intro hp
  refine E_iload_n dX7_heap_0 rfl ?_
  refine E_callS (As := [.int x]) (l' := [.int x]) (st := []) dX7_heap_1 kX7_52 sX7_isHeap MX7_isHeap rfl rfl (Nat.le_of_ble_eq_true rfl) (FC.use (c_isHM d _) rfl (L2 := [(38, .inr (7, [.ref 39, .ref 40, .int bu, .int (nI q), .ref 41, .int (nI n), .ref 42, .int fl, .int fa, .int fw, .int fr, .int rs, .int ac, .ref 43, .ref 44, .ref 45, .ref 46, .ref 47, .ref 48, .ref 49]))]) rfl) (Nat.le_of_ble_eq_true rfl) (fun _ _ hq9 => E_fgo ?_ hq9)
  show E _ _ 4 [.ref 38, .int x, .int c, .int t, .int u, .null] [.int (b2i (inI x 0 5))] (hov hp [(38, .inr (7, [.ref 39, .ref 40, .int bu, .int (nI q), .ref 41, .int (nI n), .ref 42, .int fl, .int fa, .int fw, .int fr, .int rs, .int ac, .ref 43, .ref 44, .ref 45, .ref 46, .ref 47, .ref 48, .ref 49]))]) _
  refine E_if_eq (tgt := 17) dX7_heap_4 (by decide) (fun c => (b2i_x1 hv c).elim) (fun _ => ?_)
  refine E_iload_n dX7_heap_7 rfl ?_
  refine E_iconst (v := (-1)) dX7_heap_8 (by decide) ?_
  refine E_bipush (v := 24) dX7_heap_9 (by decide) ?_
  refine E_callS (As := [.int c, .int (-1), .int 24]) (l' := [.int c, .int (-1), .int 24]) (st := []) dX7_heap_11 kX7_48 sX7_in MX7_in rfl rfl (Nat.le_of_ble_eq_true rfl) (FC.use (c_in (d + 1) _ _ _) rfl (L2 := [(38, .inr (7, [.ref 39, .ref 40, .int bu, .int (nI q), .ref 41, .int (nI n), .ref 42, .int fl, .int fa, .int fw, .int fr, .int rs, .int ac, .ref 43, .ref 44, .ref 45, .ref 46, .ref 47, .ref 48, .ref 49]))]) rfl) (Nat.le_of_ble_eq_true rfl) (fun _ _ hq9 => E_fgo ?_ hq9)
  show E _ _ 14 [.ref 38, .int x, .int c, .int t, .int u, .null] [.int (b2i (inI c (-1) 24))] (hov hp [(38, .inr (7, [.ref 39, .ref 40, .int bu, .int (nI q), .ref 41, .int (nI n), .ref 42, .int fl, .int fa, .int fw, .int fr, .int rs, .int ac, .ref 43, .ref 44, .ref 45, .ref 46, .ref 47, .ref 48, .ref 49]))]) _
  refine E_if_ne (tgt := 19) dX7_heap_14 (by decide) (fun _ => ?_) (fun c => (b2i_x1 hc c).elim)
  refine E_iload_n dX7_heap_19 rfl ?_
  refine E_iconst (v := 0) dX7_heap_20 (by decide) ?_
  refine E_iload_n dX7_heap_21 rfl ?_
  refine E_if_ge (tgt := 29) dX7_heap_22 (by decide) (fun c => absurd c hs) (fun _ => ?_)
  refine E_iconst (v := 0) dX7_heap_25 (by decide) ?_
  refine E_goto (tgt := 31) dX7_heap_26 (by decide) ?_
  refine E_callS (As := [.int t, .int 0, .int 0]) (l' := [.int t, .int 0, .int 0]) (st := []) dX7_heap_31 kX7_48 sX7_in MX7_in rfl rfl (Nat.le_of_ble_eq_true rfl) (FC.use (c_in (d + 1) _ _ _) rfl (L2 := [(38, .inr (7, [.ref 39, .ref 40, .int bu, .int (nI q), .ref 41, .int (nI n), .ref 42, .int fl, .int fa, .int fw, .int fr, .int rs, .int ac, .ref 43, .ref 44, .ref 45, .ref 46, .ref 47, .ref 48, .ref 49]))]) rfl) (Nat.le_of_ble_eq_true rfl) (fun _ _ hq9 => E_fgo ?_ hq9)
  show E _ _ 34 [.ref 38, .int x, .int c, .int t, .int u, .null] [.int (b2i (inI t 0 0))] (hov hp [(38, .inr (7, [.ref 39, .ref 40, .int bu, .int (nI q), .ref 41, .int (nI n), .ref 42, .int fl, .int fa, .int fw, .int fr, .int rs, .int ac, .ref 43, .ref 44, .ref 45, .ref 46, .ref 47, .ref 48, .ref 49]))]) _
  refine E_if_eq (tgt := 48) dX7_heap_34 (by decide) (fun c => (b2i_x1 h1 c).elim) (fun _ => ?_)
  refine E_iload dX7_heap_37 rfl ?_
  refine E_iconst (v := 0) dX7_heap_39 (by decide) ?_
  refine E_bipush (v := 9) dX7_heap_40 (by decide) ?_
  refine E_callS (As := [.int u, .int 0, .int 9]) (l' := [.int u, .int 0, .int 9]) (st := []) dX7_heap_42 kX7_48 sX7_in MX7_in rfl rfl (Nat.le_of_ble_eq_true rfl) (FC.use (c_in (d + 1) _ _ _) rfl (L2 := [(38, .inr (7, [.ref 39, .ref 40, .int bu, .int (nI q), .ref 41, .int (nI n), .ref 42, .int fl, .int fa, .int fw, .int fr, .int rs, .int ac, .ref 43, .ref 44, .ref 45, .ref 46, .ref 47, .ref 48, .ref 49]))]) rfl) (Nat.le_of_ble_eq_true rfl) (fun _ _ hq9 => E_fgo ?_ hq9)
  show E _ _ 45 [.ref 38, .int x, .int c, .int t, .int u, .null] [.int (b2i (inI u 0 9))] (hov hp [(38, .inr (7, [.ref 39, .ref 40, .int bu, .int (nI q), .ref 41, .int (nI n), .ref 42, .int fl, .int fa, .int fw, .int fr, .int rs, .int ac, .ref 43, .ref 44, .ref 45, .ref 46, .ref 47, .ref 48, .ref 49]))]) _
  refine E_if_ne (tgt := 51) dX7_heap_45 (by decide) (fun c => (b2i_x0 h2 c).elim) (fun _ => ?_)
  refine E_bipush (v := (-2)) dX7_heap_48 (by decide) ?_
  exact E_iretf dX7_heap_50 rfl rfl rfl rfl

set_option maxHeartbeats 4000000 in
set_option maxRecDepth 20000 in
theorem m_heap_outA_pos (d : Nat) (bu fl fa fw fr rs ac : Int32) (q n : Nat) (x c t u : Int32) (hv : inI x 0 5 = true) (hc : inI c (-1) 24 = true) (hs : 0 ≤ c) (h1 : inI t 0 9 = false) : FC YX7_heap (d + 2) [.ref 38, .int x, .int c, .int t, .int u, .null] [(38, .inr (7, [.ref 39, .ref 40, .int bu, .int (nI q), .ref 41, .int (nI n), .ref 42, .int fl, .int fa, .int fw, .int fr, .int rs, .int ac, .ref 43, .ref 44, .ref 45, .ref 46, .ref 47, .ref 48, .ref 49]))] (some (.int (-2))) [(38, .inr (7, [.ref 39, .ref 40, .int bu, .int (nI q), .ref 41, .int (nI n), .ref 42, .int fl, .int fa, .int fw, .int fr, .int rs, .int ac, .ref 43, .ref 44, .ref 45, .ref 46, .ref 47, .ref 48, .ref 49]))] := by
  intro hp
  refine E_iload_n dX7_heap_0 rfl ?_
  refine E_callS (As := [.int x]) (l' := [.int x]) (st := []) dX7_heap_1 kX7_52 sX7_isHeap MX7_isHeap rfl rfl (Nat.le_of_ble_eq_true rfl) (FC.use (c_isHM d _) rfl (L2 := [(38, .inr (7, [.ref 39, .ref 40, .int bu, .int (nI q), .ref 41, .int (nI n), .ref 42, .int fl, .int fa, .int fw, .int fr, .int rs, .int ac, .ref 43, .ref 44, .ref 45, .ref 46, .ref 47, .ref 48, .ref 49]))]) rfl) (Nat.le_of_ble_eq_true rfl) (fun _ _ hq9 => E_fgo ?_ hq9)
  show E _ _ 4 [.ref 38, .int x, .int c, .int t, .int u, .null] [.int (b2i (inI x 0 5))] (hov hp [(38, .inr (7, [.ref 39, .ref 40, .int bu, .int (nI q), .ref 41, .int (nI n), .ref 42, .int fl, .int fa, .int fw, .int fr, .int rs, .int ac, .ref 43, .ref 44, .ref 45, .ref 46, .ref 47, .ref 48, .ref 49]))]) _
  refine E_if_eq (tgt := 17) dX7_heap_4 (by decide) (fun c => (b2i_x1 hv c).elim) (fun _ => ?_)
  refine E_iload_n dX7_heap_7 rfl ?_
  refine E_iconst (v := (-1)) dX7_heap_8 (by decide) ?_
  refine E_bipush (v := 24) dX7_heap_9 (by decide) ?_
  refine E_callS (As := [.int c, .int (-1), .int 24]) (l' := [.int c, .int (-1), .int 24]) (st := []) dX7_heap_11 kX7_48 sX7_in MX7_in rfl rfl (Nat.le_of_ble_eq_true rfl) (FC.use (c_in (d + 1) _ _ _) rfl (L2 := [(38, .inr (7, [.ref 39, .ref 40, .int bu, .int (nI q), .ref 41, .int (nI n), .ref 42, .int fl, .int fa, .int fw, .int fr, .int rs, .int ac, .ref 43, .ref 44, .ref 45, .ref 46, .ref 47, .ref 48, .ref 49]))]) rfl) (Nat.le_of_ble_eq_true rfl) (fun _ _ hq9 => E_fgo ?_ hq9)
  show E _ _ 14 [.ref 38, .int x, .int c, .int t, .int u, .null] [.int (b2i (inI c (-1) 24))] (hov hp [(38, .inr (7, [.ref 39, .ref 40, .int bu, .int (nI q), .ref 41, .int (nI n), .ref 42, .int fl, .int fa, .int fw, .int fr, .int rs, .int ac, .ref 43, .ref 44, .ref 45, .ref 46, .ref 47, .ref 48, .ref 49]))]) _
  refine E_if_ne (tgt := 19) dX7_heap_14 (by decide) (fun _ => ?_) (fun c => (b2i_x1 hc c).elim)
  refine E_iload_n dX7_heap_19 rfl ?_
  refine E_iconst (v := 0) dX7_heap_20 (by decide) ?_
  refine E_iload_n dX7_heap_21 rfl ?_
  refine E_if_ge (tgt := 29) dX7_heap_22 (by decide) (fun _ => ?_) (fun c => absurd hs c)
  refine E_bipush (v := 9) dX7_heap_29 (by decide) ?_
  refine E_callS (As := [.int t, .int 0, .int 9]) (l' := [.int t, .int 0, .int 9]) (st := []) dX7_heap_31 kX7_48 sX7_in MX7_in rfl rfl (Nat.le_of_ble_eq_true rfl) (FC.use (c_in (d + 1) _ _ _) rfl (L2 := [(38, .inr (7, [.ref 39, .ref 40, .int bu, .int (nI q), .ref 41, .int (nI n), .ref 42, .int fl, .int fa, .int fw, .int fr, .int rs, .int ac, .ref 43, .ref 44, .ref 45, .ref 46, .ref 47, .ref 48, .ref 49]))]) rfl) (Nat.le_of_ble_eq_true rfl) (fun _ _ hq9 => E_fgo ?_ hq9)
  show E _ _ 34 [.ref 38, .int x, .int c, .int t, .int u, .null] [.int (b2i (inI t 0 9))] (hov hp [(38, .inr (7, [.ref 39, .ref 40, .int bu, .int (nI q), .ref 41, .int (nI n), .ref 42, .int fl, .int fa, .int fw, .int fr, .int rs, .int ac, .ref 43, .ref 44, .ref 45, .ref 46, .ref 47, .ref 48, .ref 49]))]) _
  refine E_if_eq (tgt := 48) dX7_heap_34 (by decide) (fun _ => ?_) (fun c => (b2i_x0 h1 c).elim)
  refine E_bipush (v := (-2)) dX7_heap_48 (by decide) ?_
  exact E_iretf dX7_heap_50 rfl rfl rfl rfl

set_option maxHeartbeats 4000000 in
set_option maxRecDepth 20000 in
theorem m_heap_outB_pos (d : Nat) (bu fl fa fw fr rs ac : Int32) (q n : Nat) (x c t u : Int32) (hv : inI x 0 5 = true) (hc : inI c (-1) 24 = true) (hs : 0 ≤ c) (h1 : inI t 0 9 = true) (h2 : inI u 0 9 = false) : FC YX7_heap (d + 2) [.ref 38, .int x, .int c, .int t, .int u, .null] [(38, .inr (7, [.ref 39, .ref 40, .int bu, .int (nI q), .ref 41, .int (nI n), .ref 42, .int fl, .int fa, .int fw, .int fr, .int rs, .int ac, .ref 43, .ref 44, .ref 45, .ref 46, .ref 47, .ref 48, .ref 49]))] (some (.int (-2))) [(38, .inr (7, [.ref 39, .ref 40, .int bu, .int (nI q), .ref 41, .int (nI n), .ref 42, .int fl, .int fa, .int fw, .int fr, .int rs, .int ac, .ref 43, .ref 44, .ref 45, .ref 46, .ref 47, .ref 48, .ref 49]))] := by
  intro hp
  refine E_iload_n dX7_heap_0 rfl ?_
  refine E_callS (As := [.int x]) (l' := [.int x]) (st := []) dX7_heap_1 kX7_52 sX7_isHeap MX7_isHeap rfl rfl (Nat.le_of_ble_eq_true rfl) (FC.use (c_isHM d _) rfl (L2 := [(38, .inr (7, [.ref 39, .ref 40, .int bu, .int (nI q), .ref 41, .int (nI n), .ref 42, .int fl, .int fa, .int fw, .int fr, .int rs, .int ac, .ref 43, .ref 44, .ref 45, .ref 46, .ref 47, .ref 48, .ref 49]))]) rfl) (Nat.le_of_ble_eq_true rfl) (fun _ _ hq9 => E_fgo ?_ hq9)
  show E _ _ 4 [.ref 38, .int x, .int c, .int t, .int u, .null] [.int (b2i (inI x 0 5))] (hov hp [(38, .inr (7, [.ref 39, .ref 40, .int bu, .int (nI q), .ref 41, .int (nI n), .ref 42, .int fl, .int fa, .int fw, .int fr, .int rs, .int ac, .ref 43, .ref 44, .ref 45, .ref 46, .ref 47, .ref 48, .ref 49]))]) _
  refine E_if_eq (tgt := 17) dX7_heap_4 (by decide) (fun c => (b2i_x1 hv c).elim) (fun _ => ?_)
  refine E_iload_n dX7_heap_7 rfl ?_
  refine E_iconst (v := (-1)) dX7_heap_8 (by decide) ?_
  refine E_bipush (v := 24) dX7_heap_9 (by decide) ?_
  refine E_callS (As := [.int c, .int (-1), .int 24]) (l' := [.int c, .int (-1), .int 24]) (st := []) dX7_heap_11 kX7_48 sX7_in MX7_in rfl rfl (Nat.le_of_ble_eq_true rfl) (FC.use (c_in (d + 1) _ _ _) rfl (L2 := [(38, .inr (7, [.ref 39, .ref 40, .int bu, .int (nI q), .ref 41, .int (nI n), .ref 42, .int fl, .int fa, .int fw, .int fr, .int rs, .int ac, .ref 43, .ref 44, .ref 45, .ref 46, .ref 47, .ref 48, .ref 49]))]) rfl) (Nat.le_of_ble_eq_true rfl) (fun _ _ hq9 => E_fgo ?_ hq9)
  show E _ _ 14 [.ref 38, .int x, .int c, .int t, .int u, .null] [.int (b2i (inI c (-1) 24))] (hov hp [(38, .inr (7, [.ref 39, .ref 40, .int bu, .int (nI q), .ref 41, .int (nI n), .ref 42, .int fl, .int fa, .int fw, .int fr, .int rs, .int ac, .ref 43, .ref 44, .ref 45, .ref 46, .ref 47, .ref 48, .ref 49]))]) _
  refine E_if_ne (tgt := 19) dX7_heap_14 (by decide) (fun _ => ?_) (fun c => (b2i_x1 hc c).elim)
  refine E_iload_n dX7_heap_19 rfl ?_
  refine E_iconst (v := 0) dX7_heap_20 (by decide) ?_
  refine E_iload_n dX7_heap_21 rfl ?_
  refine E_if_ge (tgt := 29) dX7_heap_22 (by decide) (fun _ => ?_) (fun c => absurd hs c)
  refine E_bipush (v := 9) dX7_heap_29 (by decide) ?_
  refine E_callS (As := [.int t, .int 0, .int 9]) (l' := [.int t, .int 0, .int 9]) (st := []) dX7_heap_31 kX7_48 sX7_in MX7_in rfl rfl (Nat.le_of_ble_eq_true rfl) (FC.use (c_in (d + 1) _ _ _) rfl (L2 := [(38, .inr (7, [.ref 39, .ref 40, .int bu, .int (nI q), .ref 41, .int (nI n), .ref 42, .int fl, .int fa, .int fw, .int fr, .int rs, .int ac, .ref 43, .ref 44, .ref 45, .ref 46, .ref 47, .ref 48, .ref 49]))]) rfl) (Nat.le_of_ble_eq_true rfl) (fun _ _ hq9 => E_fgo ?_ hq9)
  show E _ _ 34 [.ref 38, .int x, .int c, .int t, .int u, .null] [.int (b2i (inI t 0 9))] (hov hp [(38, .inr (7, [.ref 39, .ref 40, .int bu, .int (nI q), .ref 41, .int (nI n), .ref 42, .int fl, .int fa, .int fw, .int fr, .int rs, .int ac, .ref 43, .ref 44, .ref 45, .ref 46, .ref 47, .ref 48, .ref 49]))]) _
  refine E_if_eq (tgt := 48) dX7_heap_34 (by decide) (fun c => (b2i_x1 h1 c).elim) (fun _ => ?_)
  refine E_iload dX7_heap_37 rfl ?_
  refine E_iconst (v := 0) dX7_heap_39 (by decide) ?_
  refine E_bipush (v := 9) dX7_heap_40 (by decide) ?_
  refine E_callS (As := [.int u, .int 0, .int 9]) (l' := [.int u, .int 0, .int 9]) (st := []) dX7_heap_42 kX7_48 sX7_in MX7_in rfl rfl (Nat.le_of_ble_eq_true rfl) (FC.use (c_in (d + 1) _ _ _) rfl (L2 := [(38, .inr (7, [.ref 39, .ref 40, .int bu, .int (nI q), .ref 41, .int (nI n), .ref 42, .int fl, .int fa, .int fw, .int fr, .int rs, .int ac, .ref 43, .ref 44, .ref 45, .ref 46, .ref 47, .ref 48, .ref 49]))]) rfl) (Nat.le_of_ble_eq_true rfl) (fun _ _ hq9 => E_fgo ?_ hq9)
  show E _ _ 45 [.ref 38, .int x, .int c, .int t, .int u, .null] [.int (b2i (inI u 0 9))] (hov hp [(38, .inr (7, [.ref 39, .ref 40, .int bu, .int (nI q), .ref 41, .int (nI n), .ref 42, .int fl, .int fa, .int fw, .int fr, .int rs, .int ac, .ref 43, .ref 44, .ref 45, .ref 46, .ref 47, .ref 48, .ref 49]))]) _
  refine E_if_ne (tgt := 51) dX7_heap_45 (by decide) (fun c => (b2i_x0 h2 c).elim) (fun _ => ?_)
  refine E_bipush (v := (-2)) dX7_heap_48 (by decide) ?_
  exact E_iretf dX7_heap_50 rfl rfl rfl rfl

set_option maxHeartbeats 4000000 in
set_option maxRecDepth 20000 in
theorem m_heap_neg (d : Nat) (bu fl fa fw fr rs ac : Int32) (q n : Nat) (s : CS) (h : Nat) (hh : h < 6) (c t u : Int32) (hv : inI (nI h) 0 5 = true) (hc : inI c (-1) 24 = true) (hs : ¬ 0 ≤ c) (h1 : inI t 0 0 = true) (h2 : inI u 0 9 = true) : FC YX7_heap (d + 2) [.ref 38, .int (nI h), .int c, .int t, .int u, .null] [(38, .inr (7, [.ref 39, .ref 40, .int bu, .int (nI q), .ref 41, .int (nI n), .ref 42, .int fl, .int fa, .int fw, .int fr, .int rs, .int ac, .ref 43, .ref 44, .ref 45, .ref 46, .ref 47, .ref 48, .ref 49])), (39, .inl (false, 22, (bkF s)))] (some (.int (sce s h))) [(38, .inr (7, [.ref 39, .ref 40, .int bu, .int (nI q), .ref 41, .int (nI n), .ref 42, .int fl, .int fa, .int fw, .int fr, .int rs, .int ac, .ref 43, .ref 44, .ref 45, .ref 46, .ref 47, .ref 48, .ref 49])), (39, .inl (false, 22, (bkF (puS s h (-6) t u))))] := by
  intro hp
  refine E_iload_n dX7_heap_0 rfl ?_
  refine E_callS (As := [.int (nI h)]) (l' := [.int (nI h)]) (st := []) dX7_heap_1 kX7_52 sX7_isHeap MX7_isHeap rfl rfl (Nat.le_of_ble_eq_true rfl) (FC.use (c_isHM d _) rfl (L2 := [(38, .inr (7, [.ref 39, .ref 40, .int bu, .int (nI q), .ref 41, .int (nI n), .ref 42, .int fl, .int fa, .int fw, .int fr, .int rs, .int ac, .ref 43, .ref 44, .ref 45, .ref 46, .ref 47, .ref 48, .ref 49])), (39, .inl (false, 22, (bkF s)))]) rfl) (Nat.le_of_ble_eq_true rfl) (fun _ _ hq9 => E_fgo ?_ hq9)
  show E _ _ 4 [.ref 38, .int (nI h), .int c, .int t, .int u, .null] [.int (b2i (inI (nI h) 0 5))] (hov hp [(38, .inr (7, [.ref 39, .ref 40, .int bu, .int (nI q), .ref 41, .int (nI n), .ref 42, .int fl, .int fa, .int fw, .int fr, .int rs, .int ac, .ref 43, .ref 44, .ref 45, .ref 46, .ref 47, .ref 48, .ref 49])), (39, .inl (false, 22, (bkF s)))]) _
  refine E_if_eq (tgt := 17) dX7_heap_4 (by decide) (fun c => (b2i_x1 hv c).elim) (fun _ => ?_)
  refine E_iload_n dX7_heap_7 rfl ?_
  refine E_iconst (v := (-1)) dX7_heap_8 (by decide) ?_
  refine E_bipush (v := 24) dX7_heap_9 (by decide) ?_
  refine E_callS (As := [.int c, .int (-1), .int 24]) (l' := [.int c, .int (-1), .int 24]) (st := []) dX7_heap_11 kX7_48 sX7_in MX7_in rfl rfl (Nat.le_of_ble_eq_true rfl) (FC.use (c_in (d + 1) _ _ _) rfl (L2 := [(38, .inr (7, [.ref 39, .ref 40, .int bu, .int (nI q), .ref 41, .int (nI n), .ref 42, .int fl, .int fa, .int fw, .int fr, .int rs, .int ac, .ref 43, .ref 44, .ref 45, .ref 46, .ref 47, .ref 48, .ref 49])), (39, .inl (false, 22, (bkF s)))]) rfl) (Nat.le_of_ble_eq_true rfl) (fun _ _ hq9 => E_fgo ?_ hq9)
  show E _ _ 14 [.ref 38, .int (nI h), .int c, .int t, .int u, .null] [.int (b2i (inI c (-1) 24))] (hov hp [(38, .inr (7, [.ref 39, .ref 40, .int bu, .int (nI q), .ref 41, .int (nI n), .ref 42, .int fl, .int fa, .int fw, .int fr, .int rs, .int ac, .ref 43, .ref 44, .ref 45, .ref 46, .ref 47, .ref 48, .ref 49])), (39, .inl (false, 22, (bkF s)))]) _
  refine E_if_ne (tgt := 19) dX7_heap_14 (by decide) (fun _ => ?_) (fun c => (b2i_x1 hc c).elim)
  refine E_iload_n dX7_heap_19 rfl ?_
  refine E_iconst (v := 0) dX7_heap_20 (by decide) ?_
  refine E_iload_n dX7_heap_21 rfl ?_
  refine E_if_ge (tgt := 29) dX7_heap_22 (by decide) (fun c => absurd c hs) (fun _ => ?_)
  refine E_iconst (v := 0) dX7_heap_25 (by decide) ?_
  refine E_goto (tgt := 31) dX7_heap_26 (by decide) ?_
  refine E_callS (As := [.int t, .int 0, .int 0]) (l' := [.int t, .int 0, .int 0]) (st := []) dX7_heap_31 kX7_48 sX7_in MX7_in rfl rfl (Nat.le_of_ble_eq_true rfl) (FC.use (c_in (d + 1) _ _ _) rfl (L2 := [(38, .inr (7, [.ref 39, .ref 40, .int bu, .int (nI q), .ref 41, .int (nI n), .ref 42, .int fl, .int fa, .int fw, .int fr, .int rs, .int ac, .ref 43, .ref 44, .ref 45, .ref 46, .ref 47, .ref 48, .ref 49])), (39, .inl (false, 22, (bkF s)))]) rfl) (Nat.le_of_ble_eq_true rfl) (fun _ _ hq9 => E_fgo ?_ hq9)
  show E _ _ 34 [.ref 38, .int (nI h), .int c, .int t, .int u, .null] [.int (b2i (inI t 0 0))] (hov hp [(38, .inr (7, [.ref 39, .ref 40, .int bu, .int (nI q), .ref 41, .int (nI n), .ref 42, .int fl, .int fa, .int fw, .int fr, .int rs, .int ac, .ref 43, .ref 44, .ref 45, .ref 46, .ref 47, .ref 48, .ref 49])), (39, .inl (false, 22, (bkF s)))]) _
  refine E_if_eq (tgt := 48) dX7_heap_34 (by decide) (fun c => (b2i_x1 h1 c).elim) (fun _ => ?_)
  refine E_iload dX7_heap_37 rfl ?_
  refine E_iconst (v := 0) dX7_heap_39 (by decide) ?_
  refine E_bipush (v := 9) dX7_heap_40 (by decide) ?_
  refine E_callS (As := [.int u, .int 0, .int 9]) (l' := [.int u, .int 0, .int 9]) (st := []) dX7_heap_42 kX7_48 sX7_in MX7_in rfl rfl (Nat.le_of_ble_eq_true rfl) (FC.use (c_in (d + 1) _ _ _) rfl (L2 := [(38, .inr (7, [.ref 39, .ref 40, .int bu, .int (nI q), .ref 41, .int (nI n), .ref 42, .int fl, .int fa, .int fw, .int fr, .int rs, .int ac, .ref 43, .ref 44, .ref 45, .ref 46, .ref 47, .ref 48, .ref 49])), (39, .inl (false, 22, (bkF s)))]) rfl) (Nat.le_of_ble_eq_true rfl) (fun _ _ hq9 => E_fgo ?_ hq9)
  show E _ _ 45 [.ref 38, .int (nI h), .int c, .int t, .int u, .null] [.int (b2i (inI u 0 9))] (hov hp [(38, .inr (7, [.ref 39, .ref 40, .int bu, .int (nI q), .ref 41, .int (nI n), .ref 42, .int fl, .int fa, .int fw, .int fr, .int rs, .int ac, .ref 43, .ref 44, .ref 45, .ref 46, .ref 47, .ref 48, .ref 49])), (39, .inl (false, 22, (bkF s)))]) _
  refine E_if_ne (tgt := 51) dX7_heap_45 (by decide) (fun _ => ?_) (fun c => (b2i_x1 h2 c).elim)
  refine E_iconst (v := 0) dX7_heap_51 (by decide) ?_
  refine E_istore (l2 := [.ref 38, .int (nI h), .int c, .int t, .int u, .int 0]) dX7_heap_52 (by decide) rfl ?_
  have L : ∀ i, i ≤ 6 → E YX7_heap (d + 2) 54 [.ref 38, .int (nI h), .int c, .int t, .int u, .int (nI i)] [] (hov hp [(38, .inr (7, [.ref 39, .ref 40, .int bu, .int (nI q), .ref 41, .int (nI n), .ref 42, .int fl, .int fa, .int fw, .int fr, .int rs, .int ac, .ref 43, .ref 44, .ref 45, .ref 46, .ref 47, .ref 48, .ref 49])), (39, .inl (false, 22, (bkF s)))]) (fun v h' => v = some (.int (sce s h)) ∧ h' = hov hp [(38, .inr (7, [.ref 39, .ref 40, .int bu, .int (nI q), .ref 41, .int (nI n), .ref 42, .int fl, .int fa, .int fw, .int fr, .int rs, .int ac, .ref 43, .ref 44, .ref 45, .ref 46, .ref 47, .ref 48, .ref 49])), (39, .inl (false, 22, (bkF (puS s h (-6) t u))))]) := by
    refine down 6 ?_ ?_
    · skip
      refine E_iload dX7_heap_54 rfl ?_
      refine E_bipush (v := 6) dX7_heap_56 (by decide) ?_
      refine E_icmp_ge (tgt := 94) dX7_heap_58 (by decide) (fun _ => ?_) (fun c => absurd (by decide) c)
      refine E_aload_n dX7_heap_94 rfl ?_
      refine E_get dX7_heap_95 fX7_7 (by decide) rfl rfl ?_
      refine E_bipush (v := 12) dX7_heap_98 (by decide) ?_
      refine E_iload_n dX7_heap_100 rfl ?_
      refine E_iadd dX7_heap_101 ?_
      refine E_eqi (y := nI (12 + h)) (nI_add 12 _) ?_
      refine E_ialdN (j := 12 + h) dX7_heap_102 (by decide) rfl (by omega) (by decide) ?_
      refine E_eqi (y := sce s h) (bk_c hh) ?_
      refine E_istore (l2 := [.ref 38, .int (nI h), .int c, .int t, .int u, .int (sce s h)]) dX7_heap_103 (by decide) rfl ?_
      refine E_aload_n dX7_heap_105 rfl ?_
      refine E_get dX7_heap_106 fX7_7 (by decide) rfl rfl ?_
      refine E_iload_n dX7_heap_109 rfl ?_
      refine E_iload_n dX7_heap_110 rfl ?_
      refine E_iastN (j := h) (f2 := bkF (mkS (sce s) (upd (she s) h t) (stu s) (skn s) (sdr s) (swa s) (sbu s) (sni s))) (L2 := [(38, .inr (7, [.ref 39, .ref 40, .int bu, .int (nI q), .ref 41, .int (nI n), .ref 42, .int fl, .int fa, .int fw, .int fr, .int rs, .int ac, .ref 43, .ref 44, .ref 45, .ref 46, .ref 47, .ref 48, .ref 49])), (39, .inl (false, 22, (bkF (mkS (sce s) (upd (she s) h t) (stu s) (skn s) (sdr s) (swa s) (sbu s) (sni s)))))]) dX7_heap_111 (by decide) rfl (by omega) (by decide) (bu_h hh) rfl ?_
      refine E_aload_n dX7_heap_112 rfl ?_
      refine E_get dX7_heap_113 fX7_7 (by decide) rfl rfl ?_
      refine E_bipush (v := 6) dX7_heap_116 (by decide) ?_
      refine E_iload_n dX7_heap_118 rfl ?_
      refine E_iadd dX7_heap_119 ?_
      refine E_eqi (y := nI (6 + h)) (nI_add 6 _) ?_
      refine E_iload dX7_heap_120 rfl ?_
      refine E_iastN (j := 6 + h) (f2 := bkF (mkS (sce s) (upd (she s) h t) (upd (stu s) h u) (skn s) (sdr s) (swa s) (sbu s) (sni s))) (L2 := [(38, .inr (7, [.ref 39, .ref 40, .int bu, .int (nI q), .ref 41, .int (nI n), .ref 42, .int fl, .int fa, .int fw, .int fr, .int rs, .int ac, .ref 43, .ref 44, .ref 45, .ref 46, .ref 47, .ref 48, .ref 49])), (39, .inl (false, 22, (bkF (mkS (sce s) (upd (she s) h t) (upd (stu s) h u) (skn s) (sdr s) (swa s) (sbu s) (sni s)))))]) dX7_heap_122 (by decide) rfl (by omega) (by decide) (bu_t hh) rfl ?_
      refine E_aload_n dX7_heap_123 rfl ?_
      refine E_get dX7_heap_124 fX7_7 (by decide) rfl rfl ?_
      refine E_bipush (v := 12) dX7_heap_127 (by decide) ?_
      refine E_iload_n dX7_heap_129 rfl ?_
      refine E_iadd dX7_heap_130 ?_
      refine E_eqi (y := nI (12 + h)) (nI_add 12 _) ?_
      refine E_iload_n dX7_heap_131 rfl ?_
      refine E_if_ge (tgt := 140) dX7_heap_132 (by decide) (fun c => absurd c hs) (fun _ => ?_)
      refine E_bipush (v := (-6)) dX7_heap_135 (by decide) ?_
      refine E_goto (tgt := 141) dX7_heap_137 (by decide) ?_
      refine E_iastN (j := 12 + h) (f2 := bkF (mkS (upd (sce s) h (-6)) (upd (she s) h t) (upd (stu s) h u) (skn s) (sdr s) (swa s) (sbu s) (sni s))) (L2 := [(38, .inr (7, [.ref 39, .ref 40, .int bu, .int (nI q), .ref 41, .int (nI n), .ref 42, .int fl, .int fa, .int fw, .int fr, .int rs, .int ac, .ref 43, .ref 44, .ref 45, .ref 46, .ref 47, .ref 48, .ref 49])), (39, .inl (false, 22, (bkF (mkS (upd (sce s) h (-6)) (upd (she s) h t) (upd (stu s) h u) (skn s) (sdr s) (swa s) (sbu s) (sni s)))))]) dX7_heap_141 (by decide) rfl (by omega) (by decide) (bu_c hh) rfl ?_
      refine E_aload_n dX7_heap_142 rfl ?_
      refine E_get dX7_heap_143 fX7_7 (by decide) rfl rfl ?_
      refine E_bipush (v := 18) dX7_heap_146 (by decide) ?_
      refine E_dup2 dX7_heap_148 rfl rfl ?_
      refine E_ialdN (j := 18) dX7_heap_149 (by decide) rfl (by omega) (by decide) ?_
      refine E_eqi (y := swa s) rfl ?_
      refine E_iconst (v := 1) dX7_heap_150 (by decide) ?_
      refine E_iload_n dX7_heap_151 rfl ?_
      refine E_ishl dX7_heap_152 ?_
      refine E_iconst (v := (-1)) dX7_heap_153 (by decide) ?_
      refine E_ixor dX7_heap_154 ?_
      refine E_iand dX7_heap_155 ?_
      refine E_iastN (j := 18) (f2 := bkF (mkS (upd (sce s) h (-6)) (upd (she s) h t) (upd (stu s) h u) (skn s) (sdr s) (offB (swa s) h) (sbu s) (sni s))) (L2 := [(38, .inr (7, [.ref 39, .ref 40, .int bu, .int (nI q), .ref 41, .int (nI n), .ref 42, .int fl, .int fa, .int fw, .int fr, .int rs, .int ac, .ref 43, .ref 44, .ref 45, .ref 46, .ref 47, .ref 48, .ref 49])), (39, .inl (false, 22, (bkF (mkS (upd (sce s) h (-6)) (upd (she s) h t) (upd (stu s) h u) (skn s) (sdr s) (offB (swa s) h) (sbu s) (sni s)))))]) dX7_heap_156 (by decide) rfl (by omega) (by decide) bu_18 rfl ?_
      refine E_aload_n dX7_heap_157 rfl ?_
      refine E_get dX7_heap_158 fX7_7 (by decide) rfl rfl ?_
      refine E_bipush (v := 20) dX7_heap_161 (by decide) ?_
      refine E_dup2 dX7_heap_163 rfl rfl ?_
      refine E_ialdN (j := 20) dX7_heap_164 (by decide) rfl (by omega) (by decide) ?_
      refine E_eqi (y := sdr s) rfl ?_
      refine E_iconst (v := 1) dX7_heap_165 (by decide) ?_
      refine E_iload_n dX7_heap_166 rfl ?_
      refine E_ishl dX7_heap_167 ?_
      refine E_iconst (v := (-1)) dX7_heap_168 (by decide) ?_
      refine E_ixor dX7_heap_169 ?_
      refine E_iand dX7_heap_170 ?_
      refine E_iastN (j := 20) (f2 := bkF (puS s h (-6) t u)) (L2 := [(38, .inr (7, [.ref 39, .ref 40, .int bu, .int (nI q), .ref 41, .int (nI n), .ref 42, .int fl, .int fa, .int fw, .int fr, .int rs, .int ac, .ref 43, .ref 44, .ref 45, .ref 46, .ref 47, .ref 48, .ref 49])), (39, .inl (false, 22, (bkF (puS s h (-6) t u))))]) dX7_heap_171 (by decide) rfl (by omega) (by decide) bu_20 rfl ?_
      refine E_iload dX7_heap_172 rfl ?_
      exact E_iretf dX7_heap_174 rfl rfl rfl rfl
    · intro i hi ih
      refine E_iload dX7_heap_54 rfl ?_
      refine E_bipush (v := 6) dX7_heap_56 (by decide) ?_
      refine E_icmp_ge (tgt := 94) dX7_heap_58 (by decide) (fun c => absurd c (cI_nle (n := 6) rfl hi (by decide))) (fun _ => ?_)
      refine E_iload dX7_heap_61 rfl ?_
      refine E_iload_n dX7_heap_63 rfl ?_
      refine E_icmp_eq (tgt := 88) dX7_heap_64 (by decide) (fun c64 => ?_) (fun c64 => ?_)
      · have cb : i = h := nI_inj (by omega) (by omega) c64
        refine E_iinc (y := nI (i + 1)) (l2 := [.ref 38, .int (nI h), .int c, .int t, .int u, .int (nI (i + 1))]) dX7_heap_88 rfl (nI_1 _) (by decide) rfl ?_
        refine E_goto (tgt := 54) dX7_heap_91 (by decide) ?_
        exact ih
      · have cb : ¬ i = h := fun h => c64 (by rw [h])
        refine E_iload_n dX7_heap_67 rfl ?_
        refine E_if_lt (tgt := 88) dX7_heap_68 (by decide) (fun _ => ?_) (fun c => absurd (Int32.not_le.mp hs) c)
        refine E_iinc (y := nI (i + 1)) (l2 := [.ref 38, .int (nI h), .int c, .int t, .int u, .int (nI (i + 1))]) dX7_heap_88 rfl (nI_1 _) (by decide) rfl ?_
        refine E_goto (tgt := 54) dX7_heap_91 (by decide) ?_
        exact ih
  exact L 0 (by decide)

set_option maxHeartbeats 4000000 in
set_option maxRecDepth 20000 in
theorem m_heap_state (d : Nat) (bu fl fa fw fr rs ac : Int32) (q n : Nat) (s : CS) (h : Nat) (hh : h < 6) (c t u : Int32) (hv : inI (nI h) 0 5 = true) (hc : inI c (-1) 24 = true) (hs : 0 ≤ c) (h1 : inI t 0 9 = true) (h2 : inI u 0 9 = true) (hk : anyB (takP (sce s) c h) 6 = true) : FC YX7_heap (d + 2) [.ref 38, .int (nI h), .int c, .int t, .int u, .null] [(38, .inr (7, [.ref 39, .ref 40, .int bu, .int (nI q), .ref 41, .int (nI n), .ref 42, .int fl, .int fa, .int fw, .int fr, .int rs, .int ac, .ref 43, .ref 44, .ref 45, .ref 46, .ref 47, .ref 48, .ref 49])), (39, .inl (false, 22, (bkF s)))] (some (.int (-3))) [(38, .inr (7, [.ref 39, .ref 40, .int bu, .int (nI q), .ref 41, .int (nI n), .ref 42, .int fl, .int fa, .int fw, .int fr, .int rs, .int ac, .ref 43, .ref 44, .ref 45, .ref 46, .ref 47, .ref 48, .ref 49])), (39, .inl (false, 22, (bkF s)))] := by
  intro hp
  refine E_iload_n dX7_heap_0 rfl ?_
  refine E_callS (As := [.int (nI h)]) (l' := [.int (nI h)]) (st := []) dX7_heap_1 kX7_52 sX7_isHeap MX7_isHeap rfl rfl (Nat.le_of_ble_eq_true rfl) (FC.use (c_isHM d _) rfl (L2 := [(38, .inr (7, [.ref 39, .ref 40, .int bu, .int (nI q), .ref 41, .int (nI n), .ref 42, .int fl, .int fa, .int fw, .int fr, .int rs, .int ac, .ref 43, .ref 44, .ref 45, .ref 46, .ref 47, .ref 48, .ref 49])), (39, .inl (false, 22, (bkF s)))]) rfl) (Nat.le_of_ble_eq_true rfl) (fun _ _ hq9 => E_fgo ?_ hq9)
  show E _ _ 4 [.ref 38, .int (nI h), .int c, .int t, .int u, .null] [.int (b2i (inI (nI h) 0 5))] (hov hp [(38, .inr (7, [.ref 39, .ref 40, .int bu, .int (nI q), .ref 41, .int (nI n), .ref 42, .int fl, .int fa, .int fw, .int fr, .int rs, .int ac, .ref 43, .ref 44, .ref 45, .ref 46, .ref 47, .ref 48, .ref 49])), (39, .inl (false, 22, (bkF s)))]) _
  refine E_if_eq (tgt := 17) dX7_heap_4 (by decide) (fun c => (b2i_x1 hv c).elim) (fun _ => ?_)
  refine E_iload_n dX7_heap_7 rfl ?_
  refine E_iconst (v := (-1)) dX7_heap_8 (by decide) ?_
  refine E_bipush (v := 24) dX7_heap_9 (by decide) ?_
  refine E_callS (As := [.int c, .int (-1), .int 24]) (l' := [.int c, .int (-1), .int 24]) (st := []) dX7_heap_11 kX7_48 sX7_in MX7_in rfl rfl (Nat.le_of_ble_eq_true rfl) (FC.use (c_in (d + 1) _ _ _) rfl (L2 := [(38, .inr (7, [.ref 39, .ref 40, .int bu, .int (nI q), .ref 41, .int (nI n), .ref 42, .int fl, .int fa, .int fw, .int fr, .int rs, .int ac, .ref 43, .ref 44, .ref 45, .ref 46, .ref 47, .ref 48, .ref 49])), (39, .inl (false, 22, (bkF s)))]) rfl) (Nat.le_of_ble_eq_true rfl) (fun _ _ hq9 => E_fgo ?_ hq9)
  show E _ _ 14 [.ref 38, .int (nI h), .int c, .int t, .int u, .null] [.int (b2i (inI c (-1) 24))] (hov hp [(38, .inr (7, [.ref 39, .ref 40, .int bu, .int (nI q), .ref 41, .int (nI n), .ref 42, .int fl, .int fa, .int fw, .int fr, .int rs, .int ac, .ref 43, .ref 44, .ref 45, .ref 46, .ref 47, .ref 48, .ref 49])), (39, .inl (false, 22, (bkF s)))]) _
  refine E_if_ne (tgt := 19) dX7_heap_14 (by decide) (fun _ => ?_) (fun c => (b2i_x1 hc c).elim)
  refine E_iload_n dX7_heap_19 rfl ?_
  refine E_iconst (v := 0) dX7_heap_20 (by decide) ?_
  refine E_iload_n dX7_heap_21 rfl ?_
  refine E_if_ge (tgt := 29) dX7_heap_22 (by decide) (fun _ => ?_) (fun c => absurd hs c)
  refine E_bipush (v := 9) dX7_heap_29 (by decide) ?_
  refine E_callS (As := [.int t, .int 0, .int 9]) (l' := [.int t, .int 0, .int 9]) (st := []) dX7_heap_31 kX7_48 sX7_in MX7_in rfl rfl (Nat.le_of_ble_eq_true rfl) (FC.use (c_in (d + 1) _ _ _) rfl (L2 := [(38, .inr (7, [.ref 39, .ref 40, .int bu, .int (nI q), .ref 41, .int (nI n), .ref 42, .int fl, .int fa, .int fw, .int fr, .int rs, .int ac, .ref 43, .ref 44, .ref 45, .ref 46, .ref 47, .ref 48, .ref 49])), (39, .inl (false, 22, (bkF s)))]) rfl) (Nat.le_of_ble_eq_true rfl) (fun _ _ hq9 => E_fgo ?_ hq9)
  show E _ _ 34 [.ref 38, .int (nI h), .int c, .int t, .int u, .null] [.int (b2i (inI t 0 9))] (hov hp [(38, .inr (7, [.ref 39, .ref 40, .int bu, .int (nI q), .ref 41, .int (nI n), .ref 42, .int fl, .int fa, .int fw, .int fr, .int rs, .int ac, .ref 43, .ref 44, .ref 45, .ref 46, .ref 47, .ref 48, .ref 49])), (39, .inl (false, 22, (bkF s)))]) _
  refine E_if_eq (tgt := 48) dX7_heap_34 (by decide) (fun c => (b2i_x1 h1 c).elim) (fun _ => ?_)
  refine E_iload dX7_heap_37 rfl ?_
  refine E_iconst (v := 0) dX7_heap_39 (by decide) ?_
  refine E_bipush (v := 9) dX7_heap_40 (by decide) ?_
  refine E_callS (As := [.int u, .int 0, .int 9]) (l' := [.int u, .int 0, .int 9]) (st := []) dX7_heap_42 kX7_48 sX7_in MX7_in rfl rfl (Nat.le_of_ble_eq_true rfl) (FC.use (c_in (d + 1) _ _ _) rfl (L2 := [(38, .inr (7, [.ref 39, .ref 40, .int bu, .int (nI q), .ref 41, .int (nI n), .ref 42, .int fl, .int fa, .int fw, .int fr, .int rs, .int ac, .ref 43, .ref 44, .ref 45, .ref 46, .ref 47, .ref 48, .ref 49])), (39, .inl (false, 22, (bkF s)))]) rfl) (Nat.le_of_ble_eq_true rfl) (fun _ _ hq9 => E_fgo ?_ hq9)
  show E _ _ 45 [.ref 38, .int (nI h), .int c, .int t, .int u, .null] [.int (b2i (inI u 0 9))] (hov hp [(38, .inr (7, [.ref 39, .ref 40, .int bu, .int (nI q), .ref 41, .int (nI n), .ref 42, .int fl, .int fa, .int fw, .int fr, .int rs, .int ac, .ref 43, .ref 44, .ref 45, .ref 46, .ref 47, .ref 48, .ref 49])), (39, .inl (false, 22, (bkF s)))]) _
  refine E_if_ne (tgt := 51) dX7_heap_45 (by decide) (fun _ => ?_) (fun c => (b2i_x1 h2 c).elim)
  refine E_iconst (v := 0) dX7_heap_51 (by decide) ?_
  refine E_istore (l2 := [.ref 38, .int (nI h), .int c, .int t, .int u, .int 0]) dX7_heap_52 (by decide) rfl ?_
  have L : ∀ i, i ≤ 6 → (∀ x, x < i → takP (sce s) c h x = false) → E YX7_heap (d + 2) 54 [.ref 38, .int (nI h), .int c, .int t, .int u, .int (nI i)] [] (hov hp [(38, .inr (7, [.ref 39, .ref 40, .int bu, .int (nI q), .ref 41, .int (nI n), .ref 42, .int fl, .int fa, .int fw, .int fr, .int rs, .int ac, .ref 43, .ref 44, .ref 45, .ref 46, .ref 47, .ref 48, .ref 49])), (39, .inl (false, 22, (bkF s)))]) (fun v h' => v = some (.int (-3)) ∧ h' = hov hp [(38, .inr (7, [.ref 39, .ref 40, .int bu, .int (nI q), .ref 41, .int (nI n), .ref 42, .int fl, .int fa, .int fw, .int fr, .int rs, .int ac, .ref 43, .ref 44, .ref 45, .ref 46, .ref 47, .ref 48, .ref 49])), (39, .inl (false, 22, (bkF s)))]) := by
    refine down 6 ?_ ?_
    · intro hno
      exact absurd hk (by rw [anyB_f hno]; decide)
    · intro i hi ih hno
      refine E_iload dX7_heap_54 rfl ?_
      refine E_bipush (v := 6) dX7_heap_56 (by decide) ?_
      refine E_icmp_ge (tgt := 94) dX7_heap_58 (by decide) (fun c => absurd c (cI_nle (n := 6) rfl hi (by decide))) (fun _ => ?_)
      refine E_iload dX7_heap_61 rfl ?_
      refine E_iload_n dX7_heap_63 rfl ?_
      refine E_icmp_eq (tgt := 88) dX7_heap_64 (by decide) (fun c64 => ?_) (fun c64 => ?_)
      · have cb : i = h := nI_inj (by omega) (by omega) c64
        refine E_iinc (y := nI (i + 1)) (l2 := [.ref 38, .int (nI h), .int c, .int t, .int u, .int (nI (i + 1))]) dX7_heap_88 rfl (nI_1 _) (by decide) rfl ?_
        refine E_goto (tgt := 54) dX7_heap_91 (by decide) ?_
        exact ih (fun x hx => by rcases Nat.lt_succ_iff_lt_or_eq.mp hx with e | e; exact hno x e; subst e; simp [takP, cb])
      · have cb : ¬ i = h := fun h => c64 (by rw [h])
        refine E_iload_n dX7_heap_67 rfl ?_
        refine E_if_lt (tgt := 88) dX7_heap_68 (by decide) (fun c => absurd hs (Int32.not_le.mpr c)) (fun _ => ?_)
        refine E_aload_n dX7_heap_71 rfl ?_
        refine E_get dX7_heap_72 fX7_7 (by decide) rfl rfl ?_
        refine E_bipush (v := 12) dX7_heap_75 (by decide) ?_
        refine E_iload dX7_heap_77 rfl ?_
        refine E_iadd dX7_heap_79 ?_
        refine E_eqi (y := nI (12 + i)) (nI_add 12 _) ?_
        refine E_ialdN (j := 12 + i) dX7_heap_80 (by decide) rfl (by omega) (by decide) ?_
        refine E_eqi (y := sce s i) (bk_c hi) ?_
        refine E_iload_n dX7_heap_81 rfl ?_
        refine E_icmp_ne (tgt := 88) dX7_heap_82 (by decide) (fun c82 => ?_) (fun c82 => ?_)
        · refine E_iinc (y := nI (i + 1)) (l2 := [.ref 38, .int (nI h), .int c, .int t, .int u, .int (nI (i + 1))]) dX7_heap_88 rfl (nI_1 _) (by decide) rfl ?_
          refine E_goto (tgt := 54) dX7_heap_91 (by decide) ?_
          exact ih (fun x hx => by rcases Nat.lt_succ_iff_lt_or_eq.mp hx with e | e; exact hno x e; subst e; simp [takP, c82])
        · refine E_bipush (v := (-3)) dX7_heap_85 (by decide) ?_
          exact E_iretf dX7_heap_87 rfl rfl rfl rfl
  exact L 0 (by decide) (fun x hx => by omega)

set_option maxHeartbeats 4000000 in
set_option maxRecDepth 20000 in
theorem m_heap_pos (d : Nat) (bu fl fa fw fr rs ac : Int32) (q n : Nat) (s : CS) (h : Nat) (hh : h < 6) (c t u : Int32) (hv : inI (nI h) 0 5 = true) (hc : inI c (-1) 24 = true) (hs : 0 ≤ c) (h1 : inI t 0 9 = true) (h2 : inI u 0 9 = true) (hk : anyB (takP (sce s) c h) 6 = false) : FC YX7_heap (d + 2) [.ref 38, .int (nI h), .int c, .int t, .int u, .null] [(38, .inr (7, [.ref 39, .ref 40, .int bu, .int (nI q), .ref 41, .int (nI n), .ref 42, .int fl, .int fa, .int fw, .int fr, .int rs, .int ac, .ref 43, .ref 44, .ref 45, .ref 46, .ref 47, .ref 48, .ref 49])), (39, .inl (false, 22, (bkF s)))] (some (.int (sce s h))) [(38, .inr (7, [.ref 39, .ref 40, .int bu, .int (nI q), .ref 41, .int (nI n), .ref 42, .int fl, .int fa, .int fw, .int fr, .int rs, .int ac, .ref 43, .ref 44, .ref 45, .ref 46, .ref 47, .ref 48, .ref 49])), (39, .inl (false, 22, (bkF (puS s h c t u))))] := by
  intro hp
  refine E_iload_n dX7_heap_0 rfl ?_
  refine E_callS (As := [.int (nI h)]) (l' := [.int (nI h)]) (st := []) dX7_heap_1 kX7_52 sX7_isHeap MX7_isHeap rfl rfl (Nat.le_of_ble_eq_true rfl) (FC.use (c_isHM d _) rfl (L2 := [(38, .inr (7, [.ref 39, .ref 40, .int bu, .int (nI q), .ref 41, .int (nI n), .ref 42, .int fl, .int fa, .int fw, .int fr, .int rs, .int ac, .ref 43, .ref 44, .ref 45, .ref 46, .ref 47, .ref 48, .ref 49])), (39, .inl (false, 22, (bkF s)))]) rfl) (Nat.le_of_ble_eq_true rfl) (fun _ _ hq9 => E_fgo ?_ hq9)
  show E _ _ 4 [.ref 38, .int (nI h), .int c, .int t, .int u, .null] [.int (b2i (inI (nI h) 0 5))] (hov hp [(38, .inr (7, [.ref 39, .ref 40, .int bu, .int (nI q), .ref 41, .int (nI n), .ref 42, .int fl, .int fa, .int fw, .int fr, .int rs, .int ac, .ref 43, .ref 44, .ref 45, .ref 46, .ref 47, .ref 48, .ref 49])), (39, .inl (false, 22, (bkF s)))]) _
  refine E_if_eq (tgt := 17) dX7_heap_4 (by decide) (fun c => (b2i_x1 hv c).elim) (fun _ => ?_)
  refine E_iload_n dX7_heap_7 rfl ?_
  refine E_iconst (v := (-1)) dX7_heap_8 (by decide) ?_
  refine E_bipush (v := 24) dX7_heap_9 (by decide) ?_
  refine E_callS (As := [.int c, .int (-1), .int 24]) (l' := [.int c, .int (-1), .int 24]) (st := []) dX7_heap_11 kX7_48 sX7_in MX7_in rfl rfl (Nat.le_of_ble_eq_true rfl) (FC.use (c_in (d + 1) _ _ _) rfl (L2 := [(38, .inr (7, [.ref 39, .ref 40, .int bu, .int (nI q), .ref 41, .int (nI n), .ref 42, .int fl, .int fa, .int fw, .int fr, .int rs, .int ac, .ref 43, .ref 44, .ref 45, .ref 46, .ref 47, .ref 48, .ref 49])), (39, .inl (false, 22, (bkF s)))]) rfl) (Nat.le_of_ble_eq_true rfl) (fun _ _ hq9 => E_fgo ?_ hq9)
  show E _ _ 14 [.ref 38, .int (nI h), .int c, .int t, .int u, .null] [.int (b2i (inI c (-1) 24))] (hov hp [(38, .inr (7, [.ref 39, .ref 40, .int bu, .int (nI q), .ref 41, .int (nI n), .ref 42, .int fl, .int fa, .int fw, .int fr, .int rs, .int ac, .ref 43, .ref 44, .ref 45, .ref 46, .ref 47, .ref 48, .ref 49])), (39, .inl (false, 22, (bkF s)))]) _
  refine E_if_ne (tgt := 19) dX7_heap_14 (by decide) (fun _ => ?_) (fun c => (b2i_x1 hc c).elim)
  refine E_iload_n dX7_heap_19 rfl ?_
  refine E_iconst (v := 0) dX7_heap_20 (by decide) ?_
  refine E_iload_n dX7_heap_21 rfl ?_
  refine E_if_ge (tgt := 29) dX7_heap_22 (by decide) (fun _ => ?_) (fun c => absurd hs c)
  refine E_bipush (v := 9) dX7_heap_29 (by decide) ?_
  refine E_callS (As := [.int t, .int 0, .int 9]) (l' := [.int t, .int 0, .int 9]) (st := []) dX7_heap_31 kX7_48 sX7_in MX7_in rfl rfl (Nat.le_of_ble_eq_true rfl) (FC.use (c_in (d + 1) _ _ _) rfl (L2 := [(38, .inr (7, [.ref 39, .ref 40, .int bu, .int (nI q), .ref 41, .int (nI n), .ref 42, .int fl, .int fa, .int fw, .int fr, .int rs, .int ac, .ref 43, .ref 44, .ref 45, .ref 46, .ref 47, .ref 48, .ref 49])), (39, .inl (false, 22, (bkF s)))]) rfl) (Nat.le_of_ble_eq_true rfl) (fun _ _ hq9 => E_fgo ?_ hq9)
  show E _ _ 34 [.ref 38, .int (nI h), .int c, .int t, .int u, .null] [.int (b2i (inI t 0 9))] (hov hp [(38, .inr (7, [.ref 39, .ref 40, .int bu, .int (nI q), .ref 41, .int (nI n), .ref 42, .int fl, .int fa, .int fw, .int fr, .int rs, .int ac, .ref 43, .ref 44, .ref 45, .ref 46, .ref 47, .ref 48, .ref 49])), (39, .inl (false, 22, (bkF s)))]) _
  refine E_if_eq (tgt := 48) dX7_heap_34 (by decide) (fun c => (b2i_x1 h1 c).elim) (fun _ => ?_)
  refine E_iload dX7_heap_37 rfl ?_
  refine E_iconst (v := 0) dX7_heap_39 (by decide) ?_
  refine E_bipush (v := 9) dX7_heap_40 (by decide) ?_
  refine E_callS (As := [.int u, .int 0, .int 9]) (l' := [.int u, .int 0, .int 9]) (st := []) dX7_heap_42 kX7_48 sX7_in MX7_in rfl rfl (Nat.le_of_ble_eq_true rfl) (FC.use (c_in (d + 1) _ _ _) rfl (L2 := [(38, .inr (7, [.ref 39, .ref 40, .int bu, .int (nI q), .ref 41, .int (nI n), .ref 42, .int fl, .int fa, .int fw, .int fr, .int rs, .int ac, .ref 43, .ref 44, .ref 45, .ref 46, .ref 47, .ref 48, .ref 49])), (39, .inl (false, 22, (bkF s)))]) rfl) (Nat.le_of_ble_eq_true rfl) (fun _ _ hq9 => E_fgo ?_ hq9)
  show E _ _ 45 [.ref 38, .int (nI h), .int c, .int t, .int u, .null] [.int (b2i (inI u 0 9))] (hov hp [(38, .inr (7, [.ref 39, .ref 40, .int bu, .int (nI q), .ref 41, .int (nI n), .ref 42, .int fl, .int fa, .int fw, .int fr, .int rs, .int ac, .ref 43, .ref 44, .ref 45, .ref 46, .ref 47, .ref 48, .ref 49])), (39, .inl (false, 22, (bkF s)))]) _
  refine E_if_ne (tgt := 51) dX7_heap_45 (by decide) (fun _ => ?_) (fun c => (b2i_x1 h2 c).elim)
  refine E_iconst (v := 0) dX7_heap_51 (by decide) ?_
  refine E_istore (l2 := [.ref 38, .int (nI h), .int c, .int t, .int u, .int 0]) dX7_heap_52 (by decide) rfl ?_
  have L : ∀ i, i ≤ 6 → (∀ x, x < i → takP (sce s) c h x = false) → E YX7_heap (d + 2) 54 [.ref 38, .int (nI h), .int c, .int t, .int u, .int (nI i)] [] (hov hp [(38, .inr (7, [.ref 39, .ref 40, .int bu, .int (nI q), .ref 41, .int (nI n), .ref 42, .int fl, .int fa, .int fw, .int fr, .int rs, .int ac, .ref 43, .ref 44, .ref 45, .ref 46, .ref 47, .ref 48, .ref 49])), (39, .inl (false, 22, (bkF s)))]) (fun v h' => v = some (.int (sce s h)) ∧ h' = hov hp [(38, .inr (7, [.ref 39, .ref 40, .int bu, .int (nI q), .ref 41, .int (nI n), .ref 42, .int fl, .int fa, .int fw, .int fr, .int rs, .int ac, .ref 43, .ref 44, .ref 45, .ref 46, .ref 47, .ref 48, .ref 49])), (39, .inl (false, 22, (bkF (puS s h c t u))))]) := by
    refine down 6 ?_ ?_
    · intro hno
      refine E_iload dX7_heap_54 rfl ?_
      refine E_bipush (v := 6) dX7_heap_56 (by decide) ?_
      refine E_icmp_ge (tgt := 94) dX7_heap_58 (by decide) (fun _ => ?_) (fun c => absurd (by decide) c)
      refine E_aload_n dX7_heap_94 rfl ?_
      refine E_get dX7_heap_95 fX7_7 (by decide) rfl rfl ?_
      refine E_bipush (v := 12) dX7_heap_98 (by decide) ?_
      refine E_iload_n dX7_heap_100 rfl ?_
      refine E_iadd dX7_heap_101 ?_
      refine E_eqi (y := nI (12 + h)) (nI_add 12 _) ?_
      refine E_ialdN (j := 12 + h) dX7_heap_102 (by decide) rfl (by omega) (by decide) ?_
      refine E_eqi (y := sce s h) (bk_c hh) ?_
      refine E_istore (l2 := [.ref 38, .int (nI h), .int c, .int t, .int u, .int (sce s h)]) dX7_heap_103 (by decide) rfl ?_
      refine E_aload_n dX7_heap_105 rfl ?_
      refine E_get dX7_heap_106 fX7_7 (by decide) rfl rfl ?_
      refine E_iload_n dX7_heap_109 rfl ?_
      refine E_iload_n dX7_heap_110 rfl ?_
      refine E_iastN (j := h) (f2 := bkF (mkS (sce s) (upd (she s) h t) (stu s) (skn s) (sdr s) (swa s) (sbu s) (sni s))) (L2 := [(38, .inr (7, [.ref 39, .ref 40, .int bu, .int (nI q), .ref 41, .int (nI n), .ref 42, .int fl, .int fa, .int fw, .int fr, .int rs, .int ac, .ref 43, .ref 44, .ref 45, .ref 46, .ref 47, .ref 48, .ref 49])), (39, .inl (false, 22, (bkF (mkS (sce s) (upd (she s) h t) (stu s) (skn s) (sdr s) (swa s) (sbu s) (sni s)))))]) dX7_heap_111 (by decide) rfl (by omega) (by decide) (bu_h hh) rfl ?_
      refine E_aload_n dX7_heap_112 rfl ?_
      refine E_get dX7_heap_113 fX7_7 (by decide) rfl rfl ?_
      refine E_bipush (v := 6) dX7_heap_116 (by decide) ?_
      refine E_iload_n dX7_heap_118 rfl ?_
      refine E_iadd dX7_heap_119 ?_
      refine E_eqi (y := nI (6 + h)) (nI_add 6 _) ?_
      refine E_iload dX7_heap_120 rfl ?_
      refine E_iastN (j := 6 + h) (f2 := bkF (mkS (sce s) (upd (she s) h t) (upd (stu s) h u) (skn s) (sdr s) (swa s) (sbu s) (sni s))) (L2 := [(38, .inr (7, [.ref 39, .ref 40, .int bu, .int (nI q), .ref 41, .int (nI n), .ref 42, .int fl, .int fa, .int fw, .int fr, .int rs, .int ac, .ref 43, .ref 44, .ref 45, .ref 46, .ref 47, .ref 48, .ref 49])), (39, .inl (false, 22, (bkF (mkS (sce s) (upd (she s) h t) (upd (stu s) h u) (skn s) (sdr s) (swa s) (sbu s) (sni s)))))]) dX7_heap_122 (by decide) rfl (by omega) (by decide) (bu_t hh) rfl ?_
      refine E_aload_n dX7_heap_123 rfl ?_
      refine E_get dX7_heap_124 fX7_7 (by decide) rfl rfl ?_
      refine E_bipush (v := 12) dX7_heap_127 (by decide) ?_
      refine E_iload_n dX7_heap_129 rfl ?_
      refine E_iadd dX7_heap_130 ?_
      refine E_eqi (y := nI (12 + h)) (nI_add 12 _) ?_
      refine E_iload_n dX7_heap_131 rfl ?_
      refine E_if_ge (tgt := 140) dX7_heap_132 (by decide) (fun _ => ?_) (fun c => absurd hs c)
      refine E_iload_n dX7_heap_140 rfl ?_
      refine E_iastN (j := 12 + h) (f2 := bkF (mkS (upd (sce s) h c) (upd (she s) h t) (upd (stu s) h u) (skn s) (sdr s) (swa s) (sbu s) (sni s))) (L2 := [(38, .inr (7, [.ref 39, .ref 40, .int bu, .int (nI q), .ref 41, .int (nI n), .ref 42, .int fl, .int fa, .int fw, .int fr, .int rs, .int ac, .ref 43, .ref 44, .ref 45, .ref 46, .ref 47, .ref 48, .ref 49])), (39, .inl (false, 22, (bkF (mkS (upd (sce s) h c) (upd (she s) h t) (upd (stu s) h u) (skn s) (sdr s) (swa s) (sbu s) (sni s)))))]) dX7_heap_141 (by decide) rfl (by omega) (by decide) (bu_c hh) rfl ?_
      refine E_aload_n dX7_heap_142 rfl ?_
      refine E_get dX7_heap_143 fX7_7 (by decide) rfl rfl ?_
      refine E_bipush (v := 18) dX7_heap_146 (by decide) ?_
      refine E_dup2 dX7_heap_148 rfl rfl ?_
      refine E_ialdN (j := 18) dX7_heap_149 (by decide) rfl (by omega) (by decide) ?_
      refine E_eqi (y := swa s) rfl ?_
      refine E_iconst (v := 1) dX7_heap_150 (by decide) ?_
      refine E_iload_n dX7_heap_151 rfl ?_
      refine E_ishl dX7_heap_152 ?_
      refine E_iconst (v := (-1)) dX7_heap_153 (by decide) ?_
      refine E_ixor dX7_heap_154 ?_
      refine E_iand dX7_heap_155 ?_
      refine E_iastN (j := 18) (f2 := bkF (mkS (upd (sce s) h c) (upd (she s) h t) (upd (stu s) h u) (skn s) (sdr s) (offB (swa s) h) (sbu s) (sni s))) (L2 := [(38, .inr (7, [.ref 39, .ref 40, .int bu, .int (nI q), .ref 41, .int (nI n), .ref 42, .int fl, .int fa, .int fw, .int fr, .int rs, .int ac, .ref 43, .ref 44, .ref 45, .ref 46, .ref 47, .ref 48, .ref 49])), (39, .inl (false, 22, (bkF (mkS (upd (sce s) h c) (upd (she s) h t) (upd (stu s) h u) (skn s) (sdr s) (offB (swa s) h) (sbu s) (sni s)))))]) dX7_heap_156 (by decide) rfl (by omega) (by decide) bu_18 rfl ?_
      refine E_aload_n dX7_heap_157 rfl ?_
      refine E_get dX7_heap_158 fX7_7 (by decide) rfl rfl ?_
      refine E_bipush (v := 20) dX7_heap_161 (by decide) ?_
      refine E_dup2 dX7_heap_163 rfl rfl ?_
      refine E_ialdN (j := 20) dX7_heap_164 (by decide) rfl (by omega) (by decide) ?_
      refine E_eqi (y := sdr s) rfl ?_
      refine E_iconst (v := 1) dX7_heap_165 (by decide) ?_
      refine E_iload_n dX7_heap_166 rfl ?_
      refine E_ishl dX7_heap_167 ?_
      refine E_iconst (v := (-1)) dX7_heap_168 (by decide) ?_
      refine E_ixor dX7_heap_169 ?_
      refine E_iand dX7_heap_170 ?_
      refine E_iastN (j := 20) (f2 := bkF (puS s h c t u)) (L2 := [(38, .inr (7, [.ref 39, .ref 40, .int bu, .int (nI q), .ref 41, .int (nI n), .ref 42, .int fl, .int fa, .int fw, .int fr, .int rs, .int ac, .ref 43, .ref 44, .ref 45, .ref 46, .ref 47, .ref 48, .ref 49])), (39, .inl (false, 22, (bkF (puS s h c t u))))]) dX7_heap_171 (by decide) rfl (by omega) (by decide) bu_20 rfl ?_
      refine E_iload dX7_heap_172 rfl ?_
      exact E_iretf dX7_heap_174 rfl rfl rfl rfl
    · intro i hi ih hno
      refine E_iload dX7_heap_54 rfl ?_
      refine E_bipush (v := 6) dX7_heap_56 (by decide) ?_
      refine E_icmp_ge (tgt := 94) dX7_heap_58 (by decide) (fun c => absurd c (cI_nle (n := 6) rfl hi (by decide))) (fun _ => ?_)
      refine E_iload dX7_heap_61 rfl ?_
      refine E_iload_n dX7_heap_63 rfl ?_
      refine E_icmp_eq (tgt := 88) dX7_heap_64 (by decide) (fun c64 => ?_) (fun c64 => ?_)
      · have cb : i = h := nI_inj (by omega) (by omega) c64
        refine E_iinc (y := nI (i + 1)) (l2 := [.ref 38, .int (nI h), .int c, .int t, .int u, .int (nI (i + 1))]) dX7_heap_88 rfl (nI_1 _) (by decide) rfl ?_
        refine E_goto (tgt := 54) dX7_heap_91 (by decide) ?_
        exact ih (fun x hx => by rcases Nat.lt_succ_iff_lt_or_eq.mp hx with e | e; exact hno x e; subst e; simp [takP, cb])
      · have cb : ¬ i = h := fun h => c64 (by rw [h])
        refine E_iload_n dX7_heap_67 rfl ?_
        refine E_if_lt (tgt := 88) dX7_heap_68 (by decide) (fun c => absurd hs (Int32.not_le.mpr c)) (fun _ => ?_)
        refine E_aload_n dX7_heap_71 rfl ?_
        refine E_get dX7_heap_72 fX7_7 (by decide) rfl rfl ?_
        refine E_bipush (v := 12) dX7_heap_75 (by decide) ?_
        refine E_iload dX7_heap_77 rfl ?_
        refine E_iadd dX7_heap_79 ?_
        refine E_eqi (y := nI (12 + i)) (nI_add 12 _) ?_
        refine E_ialdN (j := 12 + i) dX7_heap_80 (by decide) rfl (by omega) (by decide) ?_
        refine E_eqi (y := sce s i) (bk_c hi) ?_
        refine E_iload_n dX7_heap_81 rfl ?_
        have hk0 : takP (sce s) c h i = true → False := fun e => absurd hk (by rw [anyB_t (p := takP (sce s) c h) hi e]; decide)
        refine E_icmp_ne (tgt := 88) dX7_heap_82 (by decide) (fun _ => ?_) (fun c => (hk0 (by simp [takP, cb, c])).elim)
        refine E_iinc (y := nI (i + 1)) (l2 := [.ref 38, .int (nI h), .int c, .int t, .int u, .int (nI (i + 1))]) dX7_heap_88 rfl (nI_1 _) (by decide) rfl ?_
        refine E_goto (tgt := 54) dX7_heap_91 (by decide) ?_
        exact ih (fun x hx => by rcases Nat.lt_succ_iff_lt_or_eq.mp hx with e | e; exact hno x e; subst e; cases ek : takP (sce s) c h x; rfl; exact absurd hk (by rw [anyB_t (p := takP (sce s) c h) hi ek]; decide))
  exact L 0 (by decide) (fun x hx => by omega)

set_option maxHeartbeats 4000000 in
set_option maxRecDepth 20000 in
theorem m_burn_out (d : Nat) (bu fl fa fw fr rs ac : Int32) (q n : Nat) (v : Int32) (hv : inI v 0 6 = false) : FC YX7_burners (d + 1) [.ref 38, .int v, .null] [(38, .inr (7, [.ref 39, .ref 40, .int bu, .int (nI q), .ref 41, .int (nI n), .ref 42, .int fl, .int fa, .int fw, .int fr, .int rs, .int ac, .ref 43, .ref 44, .ref 45, .ref 46, .ref 47, .ref 48, .ref 49]))] (some (.int (-2))) [(38, .inr (7, [.ref 39, .ref 40, .int bu, .int (nI q), .ref 41, .int (nI n), .ref 42, .int fl, .int fa, .int fw, .int fr, .int rs, .int ac, .ref 43, .ref 44, .ref 45, .ref 46, .ref 47, .ref 48, .ref 49]))] := by
  intro hp
  refine E_iload_n dX7_burners_0 rfl ?_
  refine E_iconst (v := 0) dX7_burners_1 (by decide) ?_
  refine E_bipush (v := 6) dX7_burners_2 (by decide) ?_
  refine E_callS (As := [.int v, .int 0, .int 6]) (l' := [.int v, .int 0, .int 6]) (st := []) dX7_burners_4 kX7_48 sX7_in MX7_in rfl rfl (Nat.le_of_ble_eq_true rfl) (FC.use (c_in d _ _ _) rfl (L2 := [(38, .inr (7, [.ref 39, .ref 40, .int bu, .int (nI q), .ref 41, .int (nI n), .ref 42, .int fl, .int fa, .int fw, .int fr, .int rs, .int ac, .ref 43, .ref 44, .ref 45, .ref 46, .ref 47, .ref 48, .ref 49]))]) rfl) (Nat.le_of_ble_eq_true rfl) (fun _ _ hq9 => E_fgo ?_ hq9)
  show E _ _ 7 [.ref 38, .int v, .null] [.int (b2i (inI v 0 6))] (hov hp [(38, .inr (7, [.ref 39, .ref 40, .int bu, .int (nI q), .ref 41, .int (nI n), .ref 42, .int fl, .int fa, .int fw, .int fr, .int rs, .int ac, .ref 43, .ref 44, .ref 45, .ref 46, .ref 47, .ref 48, .ref 49]))]) _
  refine E_if_ne (tgt := 13) dX7_burners_7 (by decide) (fun c => (b2i_x0 hv c).elim) (fun _ => ?_)
  refine E_bipush (v := (-2)) dX7_burners_10 (by decide) ?_
  exact E_iretf dX7_burners_12 rfl rfl rfl rfl

set_option maxHeartbeats 4000000 in
set_option maxRecDepth 20000 in
theorem m_burn_state (d : Nat) (fl fa fw fr rs ac : Int32) (q n : Nat) (s : CS) (hs : OkS s) (v : Int32) (hv : inI v 0 6 = true) (hb : v < bcI (swa s)) : FC YX7_burners (d + 1) [.ref 38, .int v, .null] [(38, .inr (7, [.ref 39, .ref 40, .int (sbu s), .int (nI q), .ref 41, .int (nI n), .ref 42, .int fl, .int fa, .int fw, .int fr, .int rs, .int ac, .ref 43, .ref 44, .ref 45, .ref 46, .ref 47, .ref 48, .ref 49])), (39, .inl (false, 22, (bkF s)))] (some (.int (-3))) [(38, .inr (7, [.ref 39, .ref 40, .int (sbu s), .int (nI q), .ref 41, .int (nI n), .ref 42, .int fl, .int fa, .int fw, .int fr, .int rs, .int ac, .ref 43, .ref 44, .ref 45, .ref 46, .ref 47, .ref 48, .ref 49])), (39, .inl (false, 22, (bkF s)))] := by
  intro hp
  refine E_iload_n dX7_burners_0 rfl ?_
  refine E_iconst (v := 0) dX7_burners_1 (by decide) ?_
  refine E_bipush (v := 6) dX7_burners_2 (by decide) ?_
  refine E_callS (As := [.int v, .int 0, .int 6]) (l' := [.int v, .int 0, .int 6]) (st := []) dX7_burners_4 kX7_48 sX7_in MX7_in rfl rfl (Nat.le_of_ble_eq_true rfl) (FC.use (c_in d _ _ _) rfl (L2 := [(38, .inr (7, [.ref 39, .ref 40, .int (sbu s), .int (nI q), .ref 41, .int (nI n), .ref 42, .int fl, .int fa, .int fw, .int fr, .int rs, .int ac, .ref 43, .ref 44, .ref 45, .ref 46, .ref 47, .ref 48, .ref 49])), (39, .inl (false, 22, (bkF s)))]) rfl) (Nat.le_of_ble_eq_true rfl) (fun _ _ hq9 => E_fgo ?_ hq9)
  show E _ _ 7 [.ref 38, .int v, .null] [.int (b2i (inI v 0 6))] (hov hp [(38, .inr (7, [.ref 39, .ref 40, .int (sbu s), .int (nI q), .ref 41, .int (nI n), .ref 42, .int fl, .int fa, .int fw, .int fr, .int rs, .int ac, .ref 43, .ref 44, .ref 45, .ref 46, .ref 47, .ref 48, .ref 49])), (39, .inl (false, 22, (bkF s)))]) _
  refine E_if_ne (tgt := 13) dX7_burners_7 (by decide) (fun _ => ?_) (fun c => (b2i_x1 hv c).elim)
  refine E_aload_n dX7_burners_13 rfl ?_
  refine E_get dX7_burners_14 fX7_7 (by decide) rfl rfl ?_
  refine E_bipush (v := 18) dX7_burners_17 (by decide) ?_
  refine E_ialdN (j := 18) dX7_burners_19 (by decide) rfl (by omega) (by decide) ?_
  refine E_eqi (y := swa s) rfl ?_
  refine E_callS (As := [.int (swa s)]) (l' := [.int (swa s), .null, .null]) (st := []) dX7_burners_20 kX7_56 sX7_bits MX7_bits rfl rfl (Nat.le_of_ble_eq_true rfl) (FC.use (c_bits d _) rfl (L2 := [(38, .inr (7, [.ref 39, .ref 40, .int (sbu s), .int (nI q), .ref 41, .int (nI n), .ref 42, .int fl, .int fa, .int fw, .int fr, .int rs, .int ac, .ref 43, .ref 44, .ref 45, .ref 46, .ref 47, .ref 48, .ref 49])), (39, .inl (false, 22, (bkF s)))]) rfl) (Nat.le_of_ble_eq_true rfl) (fun _ _ hq9 => E_fgo ?_ hq9)
  show E _ _ 23 [.ref 38, .int v, .null] [.int (bitN (swa s) 8)] (hov hp [(38, .inr (7, [.ref 39, .ref 40, .int (sbu s), .int (nI q), .ref 41, .int (nI n), .ref 42, .int fl, .int fa, .int fw, .int fr, .int rs, .int ac, .ref 43, .ref 44, .ref 45, .ref 46, .ref 47, .ref 48, .ref 49])), (39, .inl (false, 22, (bkF s)))]) _
  refine E_eqi (y := bcI (swa s)) (bits_of hs.2.2.2.2.2.1) ?_
  refine E_iload_n dX7_burners_23 rfl ?_
  refine E_icmp_le (tgt := 30) dX7_burners_24 (by decide) (fun c => absurd c (Int32.not_le.mpr hb)) (fun _ => ?_)
  refine E_bipush (v := (-3)) dX7_burners_27 (by decide) ?_
  exact E_iretf dX7_burners_29 rfl rfl rfl rfl

set_option maxHeartbeats 4000000 in
set_option maxRecDepth 20000 in
theorem m_burn_ok (d : Nat) (fl fa fw fr rs ac : Int32) (q n : Nat) (s : CS) (hs : OkS s) (v : Int32) (hv : inI v 0 6 = true) (hb : bcI (swa s) ≤ v) : FC YX7_burners (d + 1) [.ref 38, .int v, .null] [(38, .inr (7, [.ref 39, .ref 40, .int (sbu s), .int (nI q), .ref 41, .int (nI n), .ref 42, .int fl, .int fa, .int fw, .int fr, .int rs, .int ac, .ref 43, .ref 44, .ref 45, .ref 46, .ref 47, .ref 48, .ref 49])), (39, .inl (false, 22, (bkF s)))] (some (.int (sbu s))) [(38, .inr (7, [.ref 39, .ref 40, .int v, .int (nI q), .ref 41, .int (nI n), .ref 42, .int fl, .int fa, .int fw, .int fr, .int rs, .int ac, .ref 43, .ref 44, .ref 45, .ref 46, .ref 47, .ref 48, .ref 49])), (39, .inl (false, 22, (bkF s)))] := by
  intro hp
  refine E_iload_n dX7_burners_0 rfl ?_
  refine E_iconst (v := 0) dX7_burners_1 (by decide) ?_
  refine E_bipush (v := 6) dX7_burners_2 (by decide) ?_
  refine E_callS (As := [.int v, .int 0, .int 6]) (l' := [.int v, .int 0, .int 6]) (st := []) dX7_burners_4 kX7_48 sX7_in MX7_in rfl rfl (Nat.le_of_ble_eq_true rfl) (FC.use (c_in d _ _ _) rfl (L2 := [(38, .inr (7, [.ref 39, .ref 40, .int (sbu s), .int (nI q), .ref 41, .int (nI n), .ref 42, .int fl, .int fa, .int fw, .int fr, .int rs, .int ac, .ref 43, .ref 44, .ref 45, .ref 46, .ref 47, .ref 48, .ref 49])), (39, .inl (false, 22, (bkF s)))]) rfl) (Nat.le_of_ble_eq_true rfl) (fun _ _ hq9 => E_fgo ?_ hq9)
  show E _ _ 7 [.ref 38, .int v, .null] [.int (b2i (inI v 0 6))] (hov hp [(38, .inr (7, [.ref 39, .ref 40, .int (sbu s), .int (nI q), .ref 41, .int (nI n), .ref 42, .int fl, .int fa, .int fw, .int fr, .int rs, .int ac, .ref 43, .ref 44, .ref 45, .ref 46, .ref 47, .ref 48, .ref 49])), (39, .inl (false, 22, (bkF s)))]) _
  refine E_if_ne (tgt := 13) dX7_burners_7 (by decide) (fun _ => ?_) (fun c => (b2i_x1 hv c).elim)
  refine E_aload_n dX7_burners_13 rfl ?_
  refine E_get dX7_burners_14 fX7_7 (by decide) rfl rfl ?_
  refine E_bipush (v := 18) dX7_burners_17 (by decide) ?_
  refine E_ialdN (j := 18) dX7_burners_19 (by decide) rfl (by omega) (by decide) ?_
  refine E_eqi (y := swa s) rfl ?_
  refine E_callS (As := [.int (swa s)]) (l' := [.int (swa s), .null, .null]) (st := []) dX7_burners_20 kX7_56 sX7_bits MX7_bits rfl rfl (Nat.le_of_ble_eq_true rfl) (FC.use (c_bits d _) rfl (L2 := [(38, .inr (7, [.ref 39, .ref 40, .int (sbu s), .int (nI q), .ref 41, .int (nI n), .ref 42, .int fl, .int fa, .int fw, .int fr, .int rs, .int ac, .ref 43, .ref 44, .ref 45, .ref 46, .ref 47, .ref 48, .ref 49])), (39, .inl (false, 22, (bkF s)))]) rfl) (Nat.le_of_ble_eq_true rfl) (fun _ _ hq9 => E_fgo ?_ hq9)
  show E _ _ 23 [.ref 38, .int v, .null] [.int (bitN (swa s) 8)] (hov hp [(38, .inr (7, [.ref 39, .ref 40, .int (sbu s), .int (nI q), .ref 41, .int (nI n), .ref 42, .int fl, .int fa, .int fw, .int fr, .int rs, .int ac, .ref 43, .ref 44, .ref 45, .ref 46, .ref 47, .ref 48, .ref 49])), (39, .inl (false, 22, (bkF s)))]) _
  refine E_eqi (y := bcI (swa s)) (bits_of hs.2.2.2.2.2.1) ?_
  refine E_iload_n dX7_burners_23 rfl ?_
  refine E_icmp_le (tgt := 30) dX7_burners_24 (by decide) (fun _ => ?_) (fun c => absurd hb c)
  refine E_aload_n dX7_burners_30 rfl ?_
  refine E_get dX7_burners_31 fX7_16 (by decide) rfl rfl ?_
  refine E_istore_n (l2 := [.ref 38, .int v, .int (sbu s)]) dX7_burners_34 rfl (by decide) rfl ?_
  refine E_aload_n dX7_burners_35 rfl ?_
  refine E_iload_n dX7_burners_36 rfl ?_
  refine E_puti (fs2 := [.ref 39, .ref 40, .int v, .int (nI q), .ref 41, .int (nI n), .ref 42, .int fl, .int fa, .int fw, .int fr, .int rs, .int ac, .ref 43, .ref 44, .ref 45, .ref 46, .ref 47, .ref 48, .ref 49]) (L2 := [(38, .inr (7, [.ref 39, .ref 40, .int v, .int (nI q), .ref 41, .int (nI n), .ref 42, .int fl, .int fa, .int fw, .int fr, .int rs, .int ac, .ref 43, .ref 44, .ref 45, .ref 46, .ref 47, .ref 48, .ref 49])), (39, .inl (false, 22, (bkF s)))]) dX7_burners_37 fX7_16 fpX7_2 (by decide) rfl (Nat.le_of_ble_eq_true rfl) rfl rfl ?_
  refine E_iload_n dX7_burners_40 rfl ?_
  exact E_iretf dX7_burners_41 rfl rfl rfl rfl

set_option maxHeartbeats 4000000 in
set_option maxRecDepth 20000 in
theorem m_say_out (d : Nat) (bu fl fa fw fr rs ac : Int32) (q n : Nat) (v : Int32) (hv : inI v 33 126 = false) : FC YX7_say (d + 1) [.ref 38, .int v] [(38, .inr (7, [.ref 39, .ref 40, .int bu, .int (nI q), .ref 41, .int (nI n), .ref 42, .int fl, .int fa, .int fw, .int fr, .int rs, .int ac, .ref 43, .ref 44, .ref 45, .ref 46, .ref 47, .ref 48, .ref 49]))] (some (.int (-2))) [(38, .inr (7, [.ref 39, .ref 40, .int bu, .int (nI q), .ref 41, .int (nI n), .ref 42, .int fl, .int fa, .int fw, .int fr, .int rs, .int ac, .ref 43, .ref 44, .ref 45, .ref 46, .ref 47, .ref 48, .ref 49]))] := by
  intro hp
  refine E_iload_n dX7_say_0 rfl ?_
  refine E_bipush (v := 33) dX7_say_1 (by decide) ?_
  refine E_bipush (v := 126) dX7_say_3 (by decide) ?_
  refine E_callS (As := [.int v, .int 33, .int 126]) (l' := [.int v, .int 33, .int 126]) (st := []) dX7_say_5 kX7_48 sX7_in MX7_in rfl rfl (Nat.le_of_ble_eq_true rfl) (FC.use (c_in d _ _ _) rfl (L2 := [(38, .inr (7, [.ref 39, .ref 40, .int bu, .int (nI q), .ref 41, .int (nI n), .ref 42, .int fl, .int fa, .int fw, .int fr, .int rs, .int ac, .ref 43, .ref 44, .ref 45, .ref 46, .ref 47, .ref 48, .ref 49]))]) rfl) (Nat.le_of_ble_eq_true rfl) (fun _ _ hq9 => E_fgo ?_ hq9)
  show E _ _ 8 [.ref 38, .int v] [.int (b2i (inI v 33 126))] (hov hp [(38, .inr (7, [.ref 39, .ref 40, .int bu, .int (nI q), .ref 41, .int (nI n), .ref 42, .int fl, .int fa, .int fw, .int fr, .int rs, .int ac, .ref 43, .ref 44, .ref 45, .ref 46, .ref 47, .ref 48, .ref 49]))]) _
  refine E_if_ne (tgt := 14) dX7_say_8 (by decide) (fun c => (b2i_x0 hv c).elim) (fun _ => ?_)
  refine E_bipush (v := (-2)) dX7_say_11 (by decide) ?_
  exact E_iretf dX7_say_13 rfl rfl rfl rfl

set_option maxHeartbeats 4000000 in
set_option maxRecDepth 20000 in
theorem m_say_ok (d : Nat) (bu fl fa fw fr rs ac : Int32) (q n : Nat) (f : Nat → Int32) (hn : n < 60) (v : Int32) (hv : inI v 33 126 = true) : FC YX7_say (d + 1) [.ref 38, .int v] [(38, .inr (7, [.ref 39, .ref 40, .int bu, .int (nI q), .ref 41, .int (nI n), .ref 42, .int fl, .int fa, .int fw, .int fr, .int rs, .int ac, .ref 43, .ref 44, .ref 45, .ref 46, .ref 47, .ref 48, .ref 49])), (42, .inl (false, 60, f))] (some (.int (nI (n + 1)))) [(38, .inr (7, [.ref 39, .ref 40, .int bu, .int (nI q), .ref 41, .int (nI (n + 1)), .ref 42, .int fl, .int fa, .int fw, .int fr, .int rs, .int ac, .ref 43, .ref 44, .ref 45, .ref 46, .ref 47, .ref 48, .ref 49])), (42, .inl (false, 60, (upd f n v)))] := by
  intro hp
  refine E_iload_n dX7_say_0 rfl ?_
  refine E_bipush (v := 33) dX7_say_1 (by decide) ?_
  refine E_bipush (v := 126) dX7_say_3 (by decide) ?_
  refine E_callS (As := [.int v, .int 33, .int 126]) (l' := [.int v, .int 33, .int 126]) (st := []) dX7_say_5 kX7_48 sX7_in MX7_in rfl rfl (Nat.le_of_ble_eq_true rfl) (FC.use (c_in d _ _ _) rfl (L2 := [(38, .inr (7, [.ref 39, .ref 40, .int bu, .int (nI q), .ref 41, .int (nI n), .ref 42, .int fl, .int fa, .int fw, .int fr, .int rs, .int ac, .ref 43, .ref 44, .ref 45, .ref 46, .ref 47, .ref 48, .ref 49])), (42, .inl (false, 60, f))]) rfl) (Nat.le_of_ble_eq_true rfl) (fun _ _ hq9 => E_fgo ?_ hq9)
  show E _ _ 8 [.ref 38, .int v] [.int (b2i (inI v 33 126))] (hov hp [(38, .inr (7, [.ref 39, .ref 40, .int bu, .int (nI q), .ref 41, .int (nI n), .ref 42, .int fl, .int fa, .int fw, .int fr, .int rs, .int ac, .ref 43, .ref 44, .ref 45, .ref 46, .ref 47, .ref 48, .ref 49])), (42, .inl (false, 60, f))]) _
  refine E_if_ne (tgt := 14) dX7_say_8 (by decide) (fun _ => ?_) (fun c => (b2i_x1 hv c).elim)
  refine E_aload_n dX7_say_14 rfl ?_
  refine E_get dX7_say_15 fX7_60 (by decide) rfl rfl ?_
  refine E_bipush (v := 60) dX7_say_18 (by decide) ?_
  refine E_icmp_ne (tgt := 26) dX7_say_20 (by decide) (fun _ => ?_) (fun c => absurd c (ne_nI (b := 60) rfl (by omega) (by omega) (by decide)))
  refine E_aload_n dX7_say_26 rfl ?_
  refine E_get dX7_say_27 fX7_23 (by decide) rfl rfl ?_
  refine E_aload_n dX7_say_30 rfl ?_
  refine E_get dX7_say_31 fX7_60 (by decide) rfl rfl ?_
  refine E_iload_n dX7_say_34 rfl ?_
  refine E_iastN (j := n) (f2 := upd f n v) (L2 := [(38, .inr (7, [.ref 39, .ref 40, .int bu, .int (nI q), .ref 41, .int (nI n), .ref 42, .int fl, .int fa, .int fw, .int fr, .int rs, .int ac, .ref 43, .ref 44, .ref 45, .ref 46, .ref 47, .ref 48, .ref 49])), (42, .inl (false, 60, (upd f n v)))]) dX7_say_35 (by decide) rfl (by omega) (by decide) rfl rfl ?_
  refine E_aload_n dX7_say_36 rfl ?_
  refine E_dup dX7_say_37 rfl ?_
  refine E_get dX7_say_38 fX7_60 (by decide) rfl rfl ?_
  refine E_iconst (v := 1) dX7_say_41 (by decide) ?_
  refine E_iadd dX7_say_42 ?_
  refine E_eqi (y := nI (n + 1)) (nI_1 _) ?_
  refine E_puti (fs2 := [.ref 39, .ref 40, .int bu, .int (nI q), .ref 41, .int (nI (n + 1)), .ref 42, .int fl, .int fa, .int fw, .int fr, .int rs, .int ac, .ref 43, .ref 44, .ref 45, .ref 46, .ref 47, .ref 48, .ref 49]) (L2 := [(38, .inr (7, [.ref 39, .ref 40, .int bu, .int (nI q), .ref 41, .int (nI (n + 1)), .ref 42, .int fl, .int fa, .int fw, .int fr, .int rs, .int ac, .ref 43, .ref 44, .ref 45, .ref 46, .ref 47, .ref 48, .ref 49])), (42, .inl (false, 60, (upd f n v)))]) dX7_say_43 fX7_60 fpX7_5 (by decide) rfl (Nat.le_of_ble_eq_true rfl) rfl rfl ?_
  refine E_aload_n dX7_say_46 rfl ?_
  refine E_get dX7_say_47 fX7_60 (by decide) rfl rfl ?_
  exact E_iretf dX7_say_50 rfl rfl rfl rfl

set_option maxHeartbeats 4000000 in
set_option maxRecDepth 20000 in
theorem m_say_full (d : Nat) (bu fl fa fw fr rs ac : Int32) (q : Nat) (f : Nat → Int32) (v : Int32) (hv : inI v 33 126 = true) : FC YX7_say (d + 1) [.ref 38, .int v] [(38, .inr (7, [.ref 39, .ref 40, .int bu, .int (nI q), .ref 41, .int (nI 60), .ref 42, .int fl, .int fa, .int fw, .int fr, .int rs, .int ac, .ref 43, .ref 44, .ref 45, .ref 46, .ref 47, .ref 48, .ref 49])), (42, .inl (false, 60, f))] (some (.int (-4))) [(38, .inr (7, [.ref 39, .ref 40, .int bu, .int (nI q), .ref 41, .int (nI 60), .ref 42, .int fl, .int fa, .int fw, .int fr, .int rs, .int ac, .ref 43, .ref 44, .ref 45, .ref 46, .ref 47, .ref 48, .ref 49])), (42, .inl (false, 60, f))] := by
  intro hp
  refine E_iload_n dX7_say_0 rfl ?_
  refine E_bipush (v := 33) dX7_say_1 (by decide) ?_
  refine E_bipush (v := 126) dX7_say_3 (by decide) ?_
  refine E_callS (As := [.int v, .int 33, .int 126]) (l' := [.int v, .int 33, .int 126]) (st := []) dX7_say_5 kX7_48 sX7_in MX7_in rfl rfl (Nat.le_of_ble_eq_true rfl) (FC.use (c_in d _ _ _) rfl (L2 := [(38, .inr (7, [.ref 39, .ref 40, .int bu, .int (nI q), .ref 41, .int (nI 60), .ref 42, .int fl, .int fa, .int fw, .int fr, .int rs, .int ac, .ref 43, .ref 44, .ref 45, .ref 46, .ref 47, .ref 48, .ref 49])), (42, .inl (false, 60, f))]) rfl) (Nat.le_of_ble_eq_true rfl) (fun _ _ hq9 => E_fgo ?_ hq9)
  show E _ _ 8 [.ref 38, .int v] [.int (b2i (inI v 33 126))] (hov hp [(38, .inr (7, [.ref 39, .ref 40, .int bu, .int (nI q), .ref 41, .int (nI 60), .ref 42, .int fl, .int fa, .int fw, .int fr, .int rs, .int ac, .ref 43, .ref 44, .ref 45, .ref 46, .ref 47, .ref 48, .ref 49])), (42, .inl (false, 60, f))]) _
  refine E_if_ne (tgt := 14) dX7_say_8 (by decide) (fun _ => ?_) (fun c => (b2i_x1 hv c).elim)
  refine E_aload_n dX7_say_14 rfl ?_
  refine E_get dX7_say_15 fX7_60 (by decide) rfl rfl ?_
  refine E_bipush (v := 60) dX7_say_18 (by decide) ?_
  refine E_icmp_ne (tgt := 26) dX7_say_20 (by decide) (fun c => absurd rfl c) (fun _ => ?_)
  refine E_bipush (v := (-4)) dX7_say_23 (by decide) ?_
  exact E_iretf dX7_say_25 rfl rfl rfl rfl

set_option maxHeartbeats 4000000 in
set_option maxRecDepth 20000 in
theorem m_wipe (d : Nat) (bu fl fa fw fr rs ac : Int32) (q n : Nat) : FC YX7_wipe d [.ref 38, .null] [(38, .inr (7, [.ref 39, .ref 40, .int bu, .int (nI q), .ref 41, .int (nI n), .ref 42, .int fl, .int fa, .int fw, .int fr, .int rs, .int ac, .ref 43, .ref 44, .ref 45, .ref 46, .ref 47, .ref 48, .ref 49]))] (some (.int (nI n))) [(38, .inr (7, [.ref 39, .ref 40, .int bu, .int (nI q), .ref 41, .int (nI 0), .ref 42, .int fl, .int fa, .int fw, .int fr, .int rs, .int ac, .ref 43, .ref 44, .ref 45, .ref 46, .ref 47, .ref 48, .ref 49]))] := by
  intro hp
  refine E_aload_n dX7_wipe_0 rfl ?_
  refine E_get dX7_wipe_1 fX7_60 (by decide) rfl rfl ?_
  refine E_istore_n (l2 := [.ref 38, .int (nI n)]) dX7_wipe_4 rfl (by decide) rfl ?_
  refine E_aload_n dX7_wipe_5 rfl ?_
  refine E_iconst (v := 0) dX7_wipe_6 (by decide) ?_
  refine E_puti (fs2 := [.ref 39, .ref 40, .int bu, .int (nI q), .ref 41, .int 0, .ref 42, .int fl, .int fa, .int fw, .int fr, .int rs, .int ac, .ref 43, .ref 44, .ref 45, .ref 46, .ref 47, .ref 48, .ref 49]) (L2 := [(38, .inr (7, [.ref 39, .ref 40, .int bu, .int (nI q), .ref 41, .int 0, .ref 42, .int fl, .int fa, .int fw, .int fr, .int rs, .int ac, .ref 43, .ref 44, .ref 45, .ref 46, .ref 47, .ref 48, .ref 49]))]) dX7_wipe_7 fX7_60 fpX7_5 (by decide) rfl (Nat.le_of_ble_eq_true rfl) rfl rfl ?_
  refine E_iload_n dX7_wipe_10 rfl ?_
  exact E_iretf dX7_wipe_11 rfl rfl rfl rfl

set_option maxHeartbeats 4000000 in
set_option maxRecDepth 20000 in
theorem m_seen_o1 (d : Nat) (bu fl fa fw fr rs ac : Int32) (q n : Nat) (x y : Int32) (h1 : inI x 0 20 = false) : FC YX7_seen (d + 1) [.ref 38, .int x, .int y] [(38, .inr (7, [.ref 39, .ref 40, .int bu, .int (nI q), .ref 41, .int (nI n), .ref 42, .int fl, .int fa, .int fw, .int fr, .int rs, .int ac, .ref 43, .ref 44, .ref 45, .ref 46, .ref 47, .ref 48, .ref 49]))] (some (.int (-2))) [(38, .inr (7, [.ref 39, .ref 40, .int bu, .int (nI q), .ref 41, .int (nI n), .ref 42, .int fl, .int fa, .int fw, .int fr, .int rs, .int ac, .ref 43, .ref 44, .ref 45, .ref 46, .ref 47, .ref 48, .ref 49]))] := by
  intro hp
  refine E_iload_n dX7_seen_0 rfl ?_
  refine E_iconst (v := 0) dX7_seen_1 (by decide) ?_
  refine E_bipush (v := 20) dX7_seen_2 (by decide) ?_
  refine E_callS (As := [.int x, .int 0, .int 20]) (l' := [.int x, .int 0, .int 20]) (st := []) dX7_seen_4 kX7_48 sX7_in MX7_in rfl rfl (Nat.le_of_ble_eq_true rfl) (FC.use (c_in d _ _ _) rfl (L2 := [(38, .inr (7, [.ref 39, .ref 40, .int bu, .int (nI q), .ref 41, .int (nI n), .ref 42, .int fl, .int fa, .int fw, .int fr, .int rs, .int ac, .ref 43, .ref 44, .ref 45, .ref 46, .ref 47, .ref 48, .ref 49]))]) rfl) (Nat.le_of_ble_eq_true rfl) (fun _ _ hq9 => E_fgo ?_ hq9)
  show E _ _ 7 [.ref 38, .int x, .int y] [.int (b2i (inI x 0 20))] (hov hp [(38, .inr (7, [.ref 39, .ref 40, .int bu, .int (nI q), .ref 41, .int (nI n), .ref 42, .int fl, .int fa, .int fw, .int fr, .int rs, .int ac, .ref 43, .ref 44, .ref 45, .ref 46, .ref 47, .ref 48, .ref 49]))]) _
  refine E_if_eq (tgt := 20) dX7_seen_7 (by decide) (fun _ => ?_) (fun c => (b2i_x0 h1 c).elim)
  refine E_bipush (v := (-2)) dX7_seen_20 (by decide) ?_
  exact E_iretf dX7_seen_22 rfl rfl rfl rfl

set_option maxHeartbeats 4000000 in
set_option maxRecDepth 20000 in
theorem m_seen_o2 (d : Nat) (bu fl fa fw fr rs ac : Int32) (q n : Nat) (x y : Int32) (h1 : inI x 0 20 = true) (h2 : inI y 0 6 = false) : FC YX7_seen (d + 1) [.ref 38, .int x, .int y] [(38, .inr (7, [.ref 39, .ref 40, .int bu, .int (nI q), .ref 41, .int (nI n), .ref 42, .int fl, .int fa, .int fw, .int fr, .int rs, .int ac, .ref 43, .ref 44, .ref 45, .ref 46, .ref 47, .ref 48, .ref 49]))] (some (.int (-2))) [(38, .inr (7, [.ref 39, .ref 40, .int bu, .int (nI q), .ref 41, .int (nI n), .ref 42, .int fl, .int fa, .int fw, .int fr, .int rs, .int ac, .ref 43, .ref 44, .ref 45, .ref 46, .ref 47, .ref 48, .ref 49]))] := by
  intro hp
  refine E_iload_n dX7_seen_0 rfl ?_
  refine E_iconst (v := 0) dX7_seen_1 (by decide) ?_
  refine E_bipush (v := 20) dX7_seen_2 (by decide) ?_
  refine E_callS (As := [.int x, .int 0, .int 20]) (l' := [.int x, .int 0, .int 20]) (st := []) dX7_seen_4 kX7_48 sX7_in MX7_in rfl rfl (Nat.le_of_ble_eq_true rfl) (FC.use (c_in d _ _ _) rfl (L2 := [(38, .inr (7, [.ref 39, .ref 40, .int bu, .int (nI q), .ref 41, .int (nI n), .ref 42, .int fl, .int fa, .int fw, .int fr, .int rs, .int ac, .ref 43, .ref 44, .ref 45, .ref 46, .ref 47, .ref 48, .ref 49]))]) rfl) (Nat.le_of_ble_eq_true rfl) (fun _ _ hq9 => E_fgo ?_ hq9)
  show E _ _ 7 [.ref 38, .int x, .int y] [.int (b2i (inI x 0 20))] (hov hp [(38, .inr (7, [.ref 39, .ref 40, .int bu, .int (nI q), .ref 41, .int (nI n), .ref 42, .int fl, .int fa, .int fw, .int fr, .int rs, .int ac, .ref 43, .ref 44, .ref 45, .ref 46, .ref 47, .ref 48, .ref 49]))]) _
  refine E_if_eq (tgt := 20) dX7_seen_7 (by decide) (fun c => (b2i_x1 h1 c).elim) (fun _ => ?_)
  refine E_iload_n dX7_seen_10 rfl ?_
  refine E_iconst (v := 0) dX7_seen_11 (by decide) ?_
  refine E_bipush (v := 6) dX7_seen_12 (by decide) ?_
  refine E_callS (As := [.int y, .int 0, .int 6]) (l' := [.int y, .int 0, .int 6]) (st := []) dX7_seen_14 kX7_48 sX7_in MX7_in rfl rfl (Nat.le_of_ble_eq_true rfl) (FC.use (c_in d _ _ _) rfl (L2 := [(38, .inr (7, [.ref 39, .ref 40, .int bu, .int (nI q), .ref 41, .int (nI n), .ref 42, .int fl, .int fa, .int fw, .int fr, .int rs, .int ac, .ref 43, .ref 44, .ref 45, .ref 46, .ref 47, .ref 48, .ref 49]))]) rfl) (Nat.le_of_ble_eq_true rfl) (fun _ _ hq9 => E_fgo ?_ hq9)
  show E _ _ 17 [.ref 38, .int x, .int y] [.int (b2i (inI y 0 6))] (hov hp [(38, .inr (7, [.ref 39, .ref 40, .int bu, .int (nI q), .ref 41, .int (nI n), .ref 42, .int fl, .int fa, .int fw, .int fr, .int rs, .int ac, .ref 43, .ref 44, .ref 45, .ref 46, .ref 47, .ref 48, .ref 49]))]) _
  refine E_if_ne (tgt := 23) dX7_seen_17 (by decide) (fun c => (b2i_x0 h2 c).elim) (fun _ => ?_)
  refine E_bipush (v := (-2)) dX7_seen_20 (by decide) ?_
  exact E_iretf dX7_seen_22 rfl rfl rfl rfl

set_option maxHeartbeats 4000000 in
set_option maxRecDepth 20000 in
theorem m_seen_ok (d : Nat) (bu fl fa fw fr rs ac : Int32) (q n : Nat) (sn sc : Nat → Int32) (hq : q < 8) (x y : Int32) (h1 : inI x 0 20 = true) (h2 : inI y 0 6 = true) : FC YX7_seen (d + 1) [.ref 38, .int x, .int y] [(38, .inr (7, [.ref 39, .ref 40, .int bu, .int (nI q), .ref 41, .int (nI n), .ref 42, .int fl, .int fa, .int fw, .int fr, .int rs, .int ac, .ref 43, .ref 44, .ref 45, .ref 46, .ref 47, .ref 48, .ref 49])), (41, .inl (false, 16, (sgF sn sc)))] (some (.int (nI (q + 1)))) [(38, .inr (7, [.ref 39, .ref 40, .int bu, .int (nI (q + 1)), .ref 41, .int (nI n), .ref 42, .int fl, .int fa, .int fw, .int fr, .int rs, .int ac, .ref 43, .ref 44, .ref 45, .ref 46, .ref 47, .ref 48, .ref 49])), (41, .inl (false, 16, (sgF (upd sn q x) (upd sc q y))))] := by
  intro hp
  refine E_iload_n dX7_seen_0 rfl ?_
  refine E_iconst (v := 0) dX7_seen_1 (by decide) ?_
  refine E_bipush (v := 20) dX7_seen_2 (by decide) ?_
  refine E_callS (As := [.int x, .int 0, .int 20]) (l' := [.int x, .int 0, .int 20]) (st := []) dX7_seen_4 kX7_48 sX7_in MX7_in rfl rfl (Nat.le_of_ble_eq_true rfl) (FC.use (c_in d _ _ _) rfl (L2 := [(38, .inr (7, [.ref 39, .ref 40, .int bu, .int (nI q), .ref 41, .int (nI n), .ref 42, .int fl, .int fa, .int fw, .int fr, .int rs, .int ac, .ref 43, .ref 44, .ref 45, .ref 46, .ref 47, .ref 48, .ref 49])), (41, .inl (false, 16, (sgF sn sc)))]) rfl) (Nat.le_of_ble_eq_true rfl) (fun _ _ hq9 => E_fgo ?_ hq9)
  show E _ _ 7 [.ref 38, .int x, .int y] [.int (b2i (inI x 0 20))] (hov hp [(38, .inr (7, [.ref 39, .ref 40, .int bu, .int (nI q), .ref 41, .int (nI n), .ref 42, .int fl, .int fa, .int fw, .int fr, .int rs, .int ac, .ref 43, .ref 44, .ref 45, .ref 46, .ref 47, .ref 48, .ref 49])), (41, .inl (false, 16, (sgF sn sc)))]) _
  refine E_if_eq (tgt := 20) dX7_seen_7 (by decide) (fun c => (b2i_x1 h1 c).elim) (fun _ => ?_)
  refine E_iload_n dX7_seen_10 rfl ?_
  refine E_iconst (v := 0) dX7_seen_11 (by decide) ?_
  refine E_bipush (v := 6) dX7_seen_12 (by decide) ?_
  refine E_callS (As := [.int y, .int 0, .int 6]) (l' := [.int y, .int 0, .int 6]) (st := []) dX7_seen_14 kX7_48 sX7_in MX7_in rfl rfl (Nat.le_of_ble_eq_true rfl) (FC.use (c_in d _ _ _) rfl (L2 := [(38, .inr (7, [.ref 39, .ref 40, .int bu, .int (nI q), .ref 41, .int (nI n), .ref 42, .int fl, .int fa, .int fw, .int fr, .int rs, .int ac, .ref 43, .ref 44, .ref 45, .ref 46, .ref 47, .ref 48, .ref 49])), (41, .inl (false, 16, (sgF sn sc)))]) rfl) (Nat.le_of_ble_eq_true rfl) (fun _ _ hq9 => E_fgo ?_ hq9)
  show E _ _ 17 [.ref 38, .int x, .int y] [.int (b2i (inI y 0 6))] (hov hp [(38, .inr (7, [.ref 39, .ref 40, .int bu, .int (nI q), .ref 41, .int (nI n), .ref 42, .int fl, .int fa, .int fw, .int fr, .int rs, .int ac, .ref 43, .ref 44, .ref 45, .ref 46, .ref 47, .ref 48, .ref 49])), (41, .inl (false, 16, (sgF sn sc)))]) _
  refine E_if_ne (tgt := 23) dX7_seen_17 (by decide) (fun _ => ?_) (fun c => (b2i_x1 h2 c).elim)
  refine E_aload_n dX7_seen_23 rfl ?_
  refine E_get dX7_seen_24 fX7_131 (by decide) rfl rfl ?_
  refine E_bipush (v := 8) dX7_seen_27 (by decide) ?_
  refine E_icmp_ne (tgt := 35) dX7_seen_29 (by decide) (fun _ => ?_) (fun c => absurd c (ne_nI (b := 8) rfl (by omega) (by omega) (by decide)))
  refine E_aload_n dX7_seen_35 rfl ?_
  refine E_get dX7_seen_36 fX7_20 (by decide) rfl rfl ?_
  refine E_iconst (v := 2) dX7_seen_39 (by decide) ?_
  refine E_aload_n dX7_seen_40 rfl ?_
  refine E_get dX7_seen_41 fX7_131 (by decide) rfl rfl ?_
  refine E_imul dX7_seen_44 ?_
  refine E_eqi (y := nI (2 * q)) (pk_mul (a := 2) (b := q)) ?_
  refine E_iload_n dX7_seen_45 rfl ?_
  refine E_iastN (j := 2 * q) (f2 := upd (sgF sn sc) (2 * q) x) (L2 := [(38, .inr (7, [.ref 39, .ref 40, .int bu, .int (nI q), .ref 41, .int (nI n), .ref 42, .int fl, .int fa, .int fw, .int fr, .int rs, .int ac, .ref 43, .ref 44, .ref 45, .ref 46, .ref 47, .ref 48, .ref 49])), (41, .inl (false, 16, (upd (sgF sn sc) (2 * q) x)))]) dX7_seen_46 (by decide) rfl (by omega) (by decide) rfl rfl ?_
  refine E_aload_n dX7_seen_47 rfl ?_
  refine E_get dX7_seen_48 fX7_20 (by decide) rfl rfl ?_
  refine E_iconst (v := 2) dX7_seen_51 (by decide) ?_
  refine E_aload_n dX7_seen_52 rfl ?_
  refine E_get dX7_seen_53 fX7_131 (by decide) rfl rfl ?_
  refine E_imul dX7_seen_56 ?_
  refine E_eqi (y := nI (2 * q)) (pk_mul (a := 2) (b := q)) ?_
  refine E_iconst (v := 1) dX7_seen_57 (by decide) ?_
  refine E_iadd dX7_seen_58 ?_
  refine E_eqi (y := nI (2 * q + 1)) (nI_1 _) ?_
  refine E_iload_n dX7_seen_59 rfl ?_
  refine E_iastN (j := 2 * q + 1) (f2 := sgF (upd sn q x) (upd sc q y)) (L2 := [(38, .inr (7, [.ref 39, .ref 40, .int bu, .int (nI q), .ref 41, .int (nI n), .ref 42, .int fl, .int fa, .int fw, .int fr, .int rs, .int ac, .ref 43, .ref 44, .ref 45, .ref 46, .ref 47, .ref 48, .ref 49])), (41, .inl (false, 16, (sgF (upd sn q x) (upd sc q y))))]) dX7_seen_60 (by decide) rfl (by omega) (by decide) (sg_add hq _ _) rfl ?_
  refine E_aload_n dX7_seen_61 rfl ?_
  refine E_dup dX7_seen_62 rfl ?_
  refine E_get dX7_seen_63 fX7_131 (by decide) rfl rfl ?_
  refine E_iconst (v := 1) dX7_seen_66 (by decide) ?_
  refine E_iadd dX7_seen_67 ?_
  refine E_eqi (y := nI (q + 1)) (nI_1 _) ?_
  refine E_puti (fs2 := [.ref 39, .ref 40, .int bu, .int (nI (q + 1)), .ref 41, .int (nI n), .ref 42, .int fl, .int fa, .int fw, .int fr, .int rs, .int ac, .ref 43, .ref 44, .ref 45, .ref 46, .ref 47, .ref 48, .ref 49]) (L2 := [(38, .inr (7, [.ref 39, .ref 40, .int bu, .int (nI (q + 1)), .ref 41, .int (nI n), .ref 42, .int fl, .int fa, .int fw, .int fr, .int rs, .int ac, .ref 43, .ref 44, .ref 45, .ref 46, .ref 47, .ref 48, .ref 49])), (41, .inl (false, 16, (sgF (upd sn q x) (upd sc q y))))]) dX7_seen_68 fX7_131 fpX7_3 (by decide) rfl (Nat.le_of_ble_eq_true rfl) rfl rfl ?_
  refine E_aload_n dX7_seen_71 rfl ?_
  refine E_get dX7_seen_72 fX7_131 (by decide) rfl rfl ?_
  exact E_iretf dX7_seen_75 rfl rfl rfl rfl

set_option maxHeartbeats 4000000 in
set_option maxRecDepth 20000 in
theorem m_seen_full (d : Nat) (bu fl fa fw fr rs ac : Int32) (n : Nat) (x y : Int32) (h1 : inI x 0 20 = true) (h2 : inI y 0 6 = true) : FC YX7_seen (d + 1) [.ref 38, .int x, .int y] [(38, .inr (7, [.ref 39, .ref 40, .int bu, .int (nI 8), .ref 41, .int (nI n), .ref 42, .int fl, .int fa, .int fw, .int fr, .int rs, .int ac, .ref 43, .ref 44, .ref 45, .ref 46, .ref 47, .ref 48, .ref 49]))] (some (.int (-4))) [(38, .inr (7, [.ref 39, .ref 40, .int bu, .int (nI 8), .ref 41, .int (nI n), .ref 42, .int fl, .int fa, .int fw, .int fr, .int rs, .int ac, .ref 43, .ref 44, .ref 45, .ref 46, .ref 47, .ref 48, .ref 49]))] := by
  intro hp
  refine E_iload_n dX7_seen_0 rfl ?_
  refine E_iconst (v := 0) dX7_seen_1 (by decide) ?_
  refine E_bipush (v := 20) dX7_seen_2 (by decide) ?_
  refine E_callS (As := [.int x, .int 0, .int 20]) (l' := [.int x, .int 0, .int 20]) (st := []) dX7_seen_4 kX7_48 sX7_in MX7_in rfl rfl (Nat.le_of_ble_eq_true rfl) (FC.use (c_in d _ _ _) rfl (L2 := [(38, .inr (7, [.ref 39, .ref 40, .int bu, .int (nI 8), .ref 41, .int (nI n), .ref 42, .int fl, .int fa, .int fw, .int fr, .int rs, .int ac, .ref 43, .ref 44, .ref 45, .ref 46, .ref 47, .ref 48, .ref 49]))]) rfl) (Nat.le_of_ble_eq_true rfl) (fun _ _ hq9 => E_fgo ?_ hq9)
  show E _ _ 7 [.ref 38, .int x, .int y] [.int (b2i (inI x 0 20))] (hov hp [(38, .inr (7, [.ref 39, .ref 40, .int bu, .int (nI 8), .ref 41, .int (nI n), .ref 42, .int fl, .int fa, .int fw, .int fr, .int rs, .int ac, .ref 43, .ref 44, .ref 45, .ref 46, .ref 47, .ref 48, .ref 49]))]) _
  refine E_if_eq (tgt := 20) dX7_seen_7 (by decide) (fun c => (b2i_x1 h1 c).elim) (fun _ => ?_)
  refine E_iload_n dX7_seen_10 rfl ?_
  refine E_iconst (v := 0) dX7_seen_11 (by decide) ?_
  refine E_bipush (v := 6) dX7_seen_12 (by decide) ?_
  refine E_callS (As := [.int y, .int 0, .int 6]) (l' := [.int y, .int 0, .int 6]) (st := []) dX7_seen_14 kX7_48 sX7_in MX7_in rfl rfl (Nat.le_of_ble_eq_true rfl) (FC.use (c_in d _ _ _) rfl (L2 := [(38, .inr (7, [.ref 39, .ref 40, .int bu, .int (nI 8), .ref 41, .int (nI n), .ref 42, .int fl, .int fa, .int fw, .int fr, .int rs, .int ac, .ref 43, .ref 44, .ref 45, .ref 46, .ref 47, .ref 48, .ref 49]))]) rfl) (Nat.le_of_ble_eq_true rfl) (fun _ _ hq9 => E_fgo ?_ hq9)
  show E _ _ 17 [.ref 38, .int x, .int y] [.int (b2i (inI y 0 6))] (hov hp [(38, .inr (7, [.ref 39, .ref 40, .int bu, .int (nI 8), .ref 41, .int (nI n), .ref 42, .int fl, .int fa, .int fw, .int fr, .int rs, .int ac, .ref 43, .ref 44, .ref 45, .ref 46, .ref 47, .ref 48, .ref 49]))]) _
  refine E_if_ne (tgt := 23) dX7_seen_17 (by decide) (fun _ => ?_) (fun c => (b2i_x1 h2 c).elim)
  refine E_aload_n dX7_seen_23 rfl ?_
  refine E_get dX7_seen_24 fX7_131 (by decide) rfl rfl ?_
  refine E_bipush (v := 8) dX7_seen_27 (by decide) ?_
  refine E_icmp_ne (tgt := 35) dX7_seen_29 (by decide) (fun c => absurd rfl c) (fun _ => ?_)
  refine E_bipush (v := (-4)) dX7_seen_32 (by decide) ?_
  exact E_iretf dX7_seen_34 rfl rfl rfl rfl

set_option maxHeartbeats 4000000 in
set_option maxRecDepth 20000 in
theorem m_forget (d : Nat) (bu fl fa fw fr rs ac : Int32) (q n : Nat) : FC YX7_forget d [.ref 38, .null] [(38, .inr (7, [.ref 39, .ref 40, .int bu, .int (nI q), .ref 41, .int (nI n), .ref 42, .int fl, .int fa, .int fw, .int fr, .int rs, .int ac, .ref 43, .ref 44, .ref 45, .ref 46, .ref 47, .ref 48, .ref 49]))] (some (.int (nI q))) [(38, .inr (7, [.ref 39, .ref 40, .int bu, .int (nI 0), .ref 41, .int (nI n), .ref 42, .int fl, .int fa, .int fw, .int fr, .int rs, .int ac, .ref 43, .ref 44, .ref 45, .ref 46, .ref 47, .ref 48, .ref 49]))] := by
  intro hp
  refine E_aload_n dX7_forget_0 rfl ?_
  refine E_get dX7_forget_1 fX7_131 (by decide) rfl rfl ?_
  refine E_istore_n (l2 := [.ref 38, .int (nI q)]) dX7_forget_4 rfl (by decide) rfl ?_
  refine E_aload_n dX7_forget_5 rfl ?_
  refine E_iconst (v := 0) dX7_forget_6 (by decide) ?_
  refine E_puti (fs2 := [.ref 39, .ref 40, .int bu, .int 0, .ref 41, .int (nI n), .ref 42, .int fl, .int fa, .int fw, .int fr, .int rs, .int ac, .ref 43, .ref 44, .ref 45, .ref 46, .ref 47, .ref 48, .ref 49]) (L2 := [(38, .inr (7, [.ref 39, .ref 40, .int bu, .int 0, .ref 41, .int (nI n), .ref 42, .int fl, .int fa, .int fw, .int fr, .int rs, .int ac, .ref 43, .ref 44, .ref 45, .ref 46, .ref 47, .ref 48, .ref 49]))]) dX7_forget_7 fX7_131 fpX7_3 (by decide) rfl (Nat.le_of_ble_eq_true rfl) rfl rfl ?_
  refine E_iload_n dX7_forget_10 rfl ?_
  exact E_iretf dX7_forget_11 rfl rfl rfl rfl

set_option maxHeartbeats 4000000 in
set_option maxRecDepth 20000 in
theorem m_img_out (d : Nat) (bu fl fa fw fr rs ac : Int32) (q n : Nat) (v : Int32) (hv : inI v 0 1 = false) : FC YX7_image (d + 1) [.ref 38, .int v, .null, .null] [(38, .inr (7, [.ref 39, .ref 40, .int bu, .int (nI q), .ref 41, .int (nI n), .ref 42, .int fl, .int fa, .int fw, .int fr, .int rs, .int ac, .ref 43, .ref 44, .ref 45, .ref 46, .ref 47, .ref 48, .ref 49]))] (some (.int (-2))) [(38, .inr (7, [.ref 39, .ref 40, .int bu, .int (nI q), .ref 41, .int (nI n), .ref 42, .int fl, .int fa, .int fw, .int fr, .int rs, .int ac, .ref 43, .ref 44, .ref 45, .ref 46, .ref 47, .ref 48, .ref 49]))] := by
  intro hp
  refine E_iload_n dX7_image_0 rfl ?_
  refine E_iconst (v := 0) dX7_image_1 (by decide) ?_
  refine E_iconst (v := 1) dX7_image_2 (by decide) ?_
  refine E_callS (As := [.int v, .int 0, .int 1]) (l' := [.int v, .int 0, .int 1]) (st := []) dX7_image_3 kX7_48 sX7_in MX7_in rfl rfl (Nat.le_of_ble_eq_true rfl) (FC.use (c_in d _ _ _) rfl (L2 := [(38, .inr (7, [.ref 39, .ref 40, .int bu, .int (nI q), .ref 41, .int (nI n), .ref 42, .int fl, .int fa, .int fw, .int fr, .int rs, .int ac, .ref 43, .ref 44, .ref 45, .ref 46, .ref 47, .ref 48, .ref 49]))]) rfl) (Nat.le_of_ble_eq_true rfl) (fun _ _ hq9 => E_fgo ?_ hq9)
  show E _ _ 6 [.ref 38, .int v, .null, .null] [.int (b2i (inI v 0 1))] (hov hp [(38, .inr (7, [.ref 39, .ref 40, .int bu, .int (nI q), .ref 41, .int (nI n), .ref 42, .int fl, .int fa, .int fw, .int fr, .int rs, .int ac, .ref 43, .ref 44, .ref 45, .ref 46, .ref 47, .ref 48, .ref 49]))]) _
  refine E_if_ne (tgt := 12) dX7_image_6 (by decide) (fun c => (b2i_x0 hv c).elim) (fun _ => ?_)
  refine E_bipush (v := (-2)) dX7_image_9 (by decide) ?_
  exact E_iretf dX7_image_11 rfl rfl rfl rfl

set_option maxHeartbeats 4000000 in
set_option maxRecDepth 20000 in
theorem m_res_out (d : Nat) (bu fl fa fw fr rs ac : Int32) (q n : Nat) (v : Int32) (hv : inI v 0 1 = false) : FC YX7_restore (d + 1) [.ref 38, .int v, .null, .null] [(38, .inr (7, [.ref 39, .ref 40, .int bu, .int (nI q), .ref 41, .int (nI n), .ref 42, .int fl, .int fa, .int fw, .int fr, .int rs, .int ac, .ref 43, .ref 44, .ref 45, .ref 46, .ref 47, .ref 48, .ref 49]))] (some (.int (-2))) [(38, .inr (7, [.ref 39, .ref 40, .int bu, .int (nI q), .ref 41, .int (nI n), .ref 42, .int fl, .int fa, .int fw, .int fr, .int rs, .int ac, .ref 43, .ref 44, .ref 45, .ref 46, .ref 47, .ref 48, .ref 49]))] := by
  intro hp
  refine E_iload_n dX7_restore_0 rfl ?_
  refine E_iconst (v := 0) dX7_restore_1 (by decide) ?_
  refine E_iconst (v := 1) dX7_restore_2 (by decide) ?_
  refine E_callS (As := [.int v, .int 0, .int 1]) (l' := [.int v, .int 0, .int 1]) (st := []) dX7_restore_3 kX7_48 sX7_in MX7_in rfl rfl (Nat.le_of_ble_eq_true rfl) (FC.use (c_in d _ _ _) rfl (L2 := [(38, .inr (7, [.ref 39, .ref 40, .int bu, .int (nI q), .ref 41, .int (nI n), .ref 42, .int fl, .int fa, .int fw, .int fr, .int rs, .int ac, .ref 43, .ref 44, .ref 45, .ref 46, .ref 47, .ref 48, .ref 49]))]) rfl) (Nat.le_of_ble_eq_true rfl) (fun _ _ hq9 => E_fgo ?_ hq9)
  show E _ _ 6 [.ref 38, .int v, .null, .null] [.int (b2i (inI v 0 1))] (hov hp [(38, .inr (7, [.ref 39, .ref 40, .int bu, .int (nI q), .ref 41, .int (nI n), .ref 42, .int fl, .int fa, .int fw, .int fr, .int rs, .int ac, .ref 43, .ref 44, .ref 45, .ref 46, .ref 47, .ref 48, .ref 49]))]) _
  refine E_if_ne (tgt := 12) dX7_restore_6 (by decide) (fun c => (b2i_x0 hv c).elim) (fun _ => ?_)
  refine E_bipush (v := (-2)) dX7_restore_9 (by decide) ?_
  exact E_iretf dX7_restore_11 rfl rfl rfl rfl

set_option maxHeartbeats 4000000 in
set_option maxRecDepth 20000 in
theorem m_img_0 (d : Nat) (fl fa fw fr rs ac : Int32) (q n : Nat) (s : CS) (sn sc i0 i1 : Nat → Int32) (k0 k1 : Bool) : FC YX7_image (d + 1) [.ref 38, .int 0, .null, .null] [(38, .inr (7, [.ref 39, .ref 40, .int (sbu s), .int (nI q), .ref 41, .int (nI n), .ref 42, .int fl, .int fa, .int fw, .int fr, .int rs, .int ac, .ref 43, .ref 44, .ref 45, .ref 46, .ref 47, .ref 48, .ref 49])), (39, .inl (false, 22, (bkF s))), (41, .inl (false, 16, (sgF sn sc))), (48, .inl (false, 100, (imgF i0 i1))), (49, .inl (true, 2, (kpF k0 k1)))] (some (.int 1)) [(38, .inr (7, [.ref 39, .ref 40, .int (sbu s), .int (nI q), .ref 41, .int (nI n), .ref 42, .int fl, .int fa, .int fw, .int fr, .int rs, .int ac, .ref 43, .ref 44, .ref 45, .ref 46, .ref 47, .ref 48, .ref 49])), (39, .inl (false, 22, (bkF s))), (41, .inl (false, 16, (sgF sn sc))), (48, .inl (false, 100, (imgF (slF s sn sc q i0) i1))), (49, .inl (true, 2, (kpF true k1)))] := by
  intro hp
  refine E_iload_n dX7_image_0 rfl ?_
  refine E_iconst (v := 0) dX7_image_1 (by decide) ?_
  refine E_iconst (v := 1) dX7_image_2 (by decide) ?_
  refine E_callS (As := [.int 0, .int 0, .int 1]) (l' := [.int 0, .int 0, .int 1]) (st := []) dX7_image_3 kX7_48 sX7_in MX7_in rfl rfl (Nat.le_of_ble_eq_true rfl) (FC.use (c_in d _ _ _) rfl (L2 := [(38, .inr (7, [.ref 39, .ref 40, .int (sbu s), .int (nI q), .ref 41, .int (nI n), .ref 42, .int fl, .int fa, .int fw, .int fr, .int rs, .int ac, .ref 43, .ref 44, .ref 45, .ref 46, .ref 47, .ref 48, .ref 49])), (39, .inl (false, 22, (bkF s))), (41, .inl (false, 16, (sgF sn sc))), (48, .inl (false, 100, (imgF i0 i1))), (49, .inl (true, 2, (kpF k0 k1)))]) rfl) (Nat.le_of_ble_eq_true rfl) (fun _ _ hq9 => E_fgo ?_ hq9)
  show E _ _ 6 [.ref 38, .int 0, .null, .null] [.int (b2i (inI 0 0 1))] (hov hp [(38, .inr (7, [.ref 39, .ref 40, .int (sbu s), .int (nI q), .ref 41, .int (nI n), .ref 42, .int fl, .int fa, .int fw, .int fr, .int rs, .int ac, .ref 43, .ref 44, .ref 45, .ref 46, .ref 47, .ref 48, .ref 49])), (39, .inl (false, 22, (bkF s))), (41, .inl (false, 16, (sgF sn sc))), (48, .inl (false, 100, (imgF i0 i1))), (49, .inl (true, 2, (kpF k0 k1)))]) _
  refine E_if_ne (tgt := 12) dX7_image_6 (by decide) (fun _ => ?_) (fun c => (b2i_x1 (by decide) c).elim)
  refine E_bipush (v := 50) dX7_image_12 (by decide) ?_
  refine E_iload_n dX7_image_14 rfl ?_
  refine E_imul dX7_image_15 ?_
  refine E_eqi (y := 0) (by decide) ?_
  refine E_eqi (y := nI 0) rfl ?_
  refine E_istore_n (l2 := [.ref 38, .int 0, .int (nI 0), .null]) dX7_image_16 rfl (by decide) rfl ?_
  refine E_iconst (v := 0) dX7_image_17 (by decide) ?_
  refine E_istore_n (l2 := [.ref 38, .int 0, .int (nI 0), .int 0]) dX7_image_18 rfl (by decide) rfl ?_
  have L2 : ∀ i, i ≤ 16 → E YX7_image (d + 1) 47 [.ref 38, .int 0, .int (nI 0), .int (nI i)] [] (hov hp [(38, .inr (7, [.ref 39, .ref 40, .int (sbu s), .int (nI q), .ref 41, .int (nI n), .ref 42, .int fl, .int fa, .int fw, .int fr, .int rs, .int ac, .ref 43, .ref 44, .ref 45, .ref 46, .ref 47, .ref 48, .ref 49])), (39, .inl (false, 22, (bkF s))), (41, .inl (false, 16, (sgF sn sc))), (48, .inl (false, 100, (cpo (cpo (imgF i0 i1) (bkF s) 0 22) (sgF sn sc) 22 i))), (49, .inl (true, 2, (kpF k0 k1)))]) (fun v h' => v = some (.int 1) ∧ h' = hov hp [(38, .inr (7, [.ref 39, .ref 40, .int (sbu s), .int (nI q), .ref 41, .int (nI n), .ref 42, .int fl, .int fa, .int fw, .int fr, .int rs, .int ac, .ref 43, .ref 44, .ref 45, .ref 46, .ref 47, .ref 48, .ref 49])), (39, .inl (false, 22, (bkF s))), (41, .inl (false, 16, (sgF sn sc))), (48, .inl (false, 100, (imgF (slF s sn sc q i0) i1))), (49, .inl (true, 2, (kpF true k1)))]) := by
    refine down 16 ?_ ?_
    · refine E_iload_n dX7_image_47 rfl ?_
      refine E_bipush (v := 16) dX7_image_48 (by decide) ?_
      refine E_icmp_ge (tgt := 76) dX7_image_50 (by decide) (fun _ => ?_) (fun c => absurd (by decide) c)
      refine E_aload_n dX7_image_76 rfl ?_
      refine E_get dX7_image_77 fX7_42 (by decide) rfl rfl ?_
      refine E_iload_n dX7_image_80 rfl ?_
      refine E_bipush (v := 45) dX7_image_81 (by decide) ?_
      refine E_iadd dX7_image_83 ?_
      refine E_eqi (y := nI 45) rfl ?_
      refine E_aload_n dX7_image_84 rfl ?_
      refine E_get dX7_image_85 fX7_16 (by decide) rfl rfl ?_
      refine E_iastN (j := 45) (f2 := upd (cpo (cpo (imgF i0 i1) (bkF s) 0 22) (sgF sn sc) 22 16) 45 (sbu s)) (L2 := [(38, .inr (7, [.ref 39, .ref 40, .int (sbu s), .int (nI q), .ref 41, .int (nI n), .ref 42, .int fl, .int fa, .int fw, .int fr, .int rs, .int ac, .ref 43, .ref 44, .ref 45, .ref 46, .ref 47, .ref 48, .ref 49])), (39, .inl (false, 22, (bkF s))), (41, .inl (false, 16, (sgF sn sc))), (48, .inl (false, 100, (upd (cpo (cpo (imgF i0 i1) (bkF s) 0 22) (sgF sn sc) 22 16) 45 (sbu s)))), (49, .inl (true, 2, (kpF k0 k1)))]) dX7_image_88 (by decide) rfl (by omega) (by decide) rfl rfl ?_
      refine E_aload_n dX7_image_89 rfl ?_
      refine E_get dX7_image_90 fX7_42 (by decide) rfl rfl ?_
      refine E_iload_n dX7_image_93 rfl ?_
      refine E_bipush (v := 46) dX7_image_94 (by decide) ?_
      refine E_iadd dX7_image_96 ?_
      refine E_eqi (y := nI 46) rfl ?_
      refine E_aload_n dX7_image_97 rfl ?_
      refine E_get dX7_image_98 fX7_131 (by decide) rfl rfl ?_
      refine E_iastN (j := 46) (f2 := (imgF (slF s sn sc q i0) i1)) (L2 := [(38, .inr (7, [.ref 39, .ref 40, .int (sbu s), .int (nI q), .ref 41, .int (nI n), .ref 42, .int fl, .int fa, .int fw, .int fr, .int rs, .int ac, .ref 43, .ref 44, .ref 45, .ref 46, .ref 47, .ref 48, .ref 49])), (39, .inl (false, 22, (bkF s))), (41, .inl (false, 16, (sgF sn sc))), (48, .inl (false, 100, (imgF (slF s sn sc q i0) i1))), (49, .inl (true, 2, (kpF k0 k1)))]) dX7_image_101 (by decide) rfl (by omega) (by decide) im_0 rfl ?_
      refine E_aload_n dX7_image_102 rfl ?_
      refine E_get dX7_image_103 fX7_45 (by decide) rfl rfl ?_
      refine E_iload_n dX7_image_106 rfl ?_
      refine E_iconst (v := 1) dX7_image_107 (by decide) ?_
      refine E_zastN (j := 0) (f2 := kpF true k1) (L2 := [(38, .inr (7, [.ref 39, .ref 40, .int (sbu s), .int (nI q), .ref 41, .int (nI n), .ref 42, .int fl, .int fa, .int fw, .int fr, .int rs, .int ac, .ref 43, .ref 44, .ref 45, .ref 46, .ref 47, .ref 48, .ref 49])), (39, .inl (false, 22, (bkF s))), (41, .inl (false, 16, (sgF sn sc))), (48, .inl (false, 100, (imgF (slF s sn sc q i0) i1))), (49, .inl (true, 2, (kpF true k1)))]) dX7_image_108 (by decide) rfl (by omega) (by decide) kp_0 rfl ?_
      refine E_iconst (v := 1) dX7_image_109 (by decide) ?_
      exact E_iretf dX7_image_110 rfl rfl rfl rfl
    · intro i hi ih
      refine E_iload_n dX7_image_47 rfl ?_
      refine E_bipush (v := 16) dX7_image_48 (by decide) ?_
      refine E_icmp_ge (tgt := 76) dX7_image_50 (by decide) (fun c => absurd c (cI_nle (n := 16) rfl hi (by decide))) (fun _ => ?_)
      refine E_aload_n dX7_image_53 rfl ?_
      refine E_get dX7_image_54 fX7_42 (by decide) rfl rfl ?_
      refine E_iload_n dX7_image_57 rfl ?_
      refine E_bipush (v := 22) dX7_image_58 (by decide) ?_
      refine E_iadd dX7_image_60 ?_
      refine E_eqi (y := nI 22) rfl ?_
      refine E_iload_n dX7_image_61 rfl ?_
      refine E_iadd dX7_image_62 ?_
      refine E_eqi (y := nI (22 + i)) (nI_add 22 _) ?_
      refine E_aload_n dX7_image_63 rfl ?_
      refine E_get dX7_image_64 fX7_20 (by decide) rfl rfl ?_
      refine E_iload_n dX7_image_67 rfl ?_
      refine E_ialdN (j := i) dX7_image_68 (by decide) rfl (by omega) (by decide) ?_
      refine E_iastN (j := 22 + i) (f2 := (cpo (cpo (imgF i0 i1) (bkF s) 0 22) (sgF sn sc) 22 (i + 1))) (L2 := [(38, .inr (7, [.ref 39, .ref 40, .int (sbu s), .int (nI q), .ref 41, .int (nI n), .ref 42, .int fl, .int fa, .int fw, .int fr, .int rs, .int ac, .ref 43, .ref 44, .ref 45, .ref 46, .ref 47, .ref 48, .ref 49])), (39, .inl (false, 22, (bkF s))), (41, .inl (false, 16, (sgF sn sc))), (48, .inl (false, 100, (cpo (cpo (imgF i0 i1) (bkF s) 0 22) (sgF sn sc) 22 (i + 1)))), (49, .inl (true, 2, (kpF k0 k1)))]) dX7_image_69 (by decide) rfl (by omega) (by decide) (cpo_s _ _ _ _) rfl ?_
      refine E_iinc (y := nI (i + 1)) (l2 := [.ref 38, .int 0, .int (nI 0), .int (nI (i + 1))]) dX7_image_70 rfl (nI_1 _) (by decide) rfl ?_
      refine E_goto (tgt := 47) dX7_image_73 (by decide) ?_
      exact ih
  have L1 : ∀ i, i ≤ 22 → E YX7_image (d + 1) 19 [.ref 38, .int 0, .int (nI 0), .int (nI i)] [] (hov hp [(38, .inr (7, [.ref 39, .ref 40, .int (sbu s), .int (nI q), .ref 41, .int (nI n), .ref 42, .int fl, .int fa, .int fw, .int fr, .int rs, .int ac, .ref 43, .ref 44, .ref 45, .ref 46, .ref 47, .ref 48, .ref 49])), (39, .inl (false, 22, (bkF s))), (41, .inl (false, 16, (sgF sn sc))), (48, .inl (false, 100, (cpo (imgF i0 i1) (bkF s) 0 i))), (49, .inl (true, 2, (kpF k0 k1)))]) (fun v h' => v = some (.int 1) ∧ h' = hov hp [(38, .inr (7, [.ref 39, .ref 40, .int (sbu s), .int (nI q), .ref 41, .int (nI n), .ref 42, .int fl, .int fa, .int fw, .int fr, .int rs, .int ac, .ref 43, .ref 44, .ref 45, .ref 46, .ref 47, .ref 48, .ref 49])), (39, .inl (false, 22, (bkF s))), (41, .inl (false, 16, (sgF sn sc))), (48, .inl (false, 100, (imgF (slF s sn sc q i0) i1))), (49, .inl (true, 2, (kpF true k1)))]) := by
    refine down 22 ?_ ?_
    · refine E_iload_n dX7_image_19 rfl ?_
      refine E_bipush (v := 22) dX7_image_20 (by decide) ?_
      refine E_icmp_ge (tgt := 45) dX7_image_22 (by decide) (fun _ => ?_) (fun c => absurd (by decide) c)
      refine E_iconst (v := 0) dX7_image_45 (by decide) ?_
      refine E_istore_n (l2 := [.ref 38, .int 0, .int (nI 0), .int 0]) dX7_image_46 rfl (by decide) rfl ?_
      have e0 := L2 0 (by decide)
      rw [cpo_0] at e0
      exact e0
    · intro i hi ih
      refine E_iload_n dX7_image_19 rfl ?_
      refine E_bipush (v := 22) dX7_image_20 (by decide) ?_
      refine E_icmp_ge (tgt := 45) dX7_image_22 (by decide) (fun c => absurd c (cI_nle (n := 22) rfl hi (by decide))) (fun _ => ?_)
      refine E_aload_n dX7_image_25 rfl ?_
      refine E_get dX7_image_26 fX7_42 (by decide) rfl rfl ?_
      refine E_iload_n dX7_image_29 rfl ?_
      refine E_iload_n dX7_image_30 rfl ?_
      refine E_iadd dX7_image_31 ?_
      refine E_eqi (y := nI (0 + i)) (nI_add 0 _) ?_
      refine E_aload_n dX7_image_32 rfl ?_
      refine E_get dX7_image_33 fX7_7 (by decide) rfl rfl ?_
      refine E_iload_n dX7_image_36 rfl ?_
      refine E_ialdN (j := i) dX7_image_37 (by decide) rfl (by omega) (by decide) ?_
      refine E_iastN (j := 0 + i) (f2 := (cpo (imgF i0 i1) (bkF s) 0 (i + 1))) (L2 := [(38, .inr (7, [.ref 39, .ref 40, .int (sbu s), .int (nI q), .ref 41, .int (nI n), .ref 42, .int fl, .int fa, .int fw, .int fr, .int rs, .int ac, .ref 43, .ref 44, .ref 45, .ref 46, .ref 47, .ref 48, .ref 49])), (39, .inl (false, 22, (bkF s))), (41, .inl (false, 16, (sgF sn sc))), (48, .inl (false, 100, (cpo (imgF i0 i1) (bkF s) 0 (i + 1)))), (49, .inl (true, 2, (kpF k0 k1)))]) dX7_image_38 (by decide) rfl (by omega) (by decide) (cpo_s _ _ _ _) rfl ?_
      refine E_iinc (y := nI (i + 1)) (l2 := [.ref 38, .int 0, .int (nI 0), .int (nI (i + 1))]) dX7_image_39 rfl (nI_1 _) (by decide) rfl ?_
      refine E_goto (tgt := 19) dX7_image_42 (by decide) ?_
      exact ih
  have e0 := L1 0 (by decide)
  rw [cpo_0] at e0
  exact e0

set_option maxHeartbeats 4000000 in
set_option maxRecDepth 20000 in
theorem m_res_st_0 (d : Nat) (bu fl fa fw fr rs ac : Int32) (q n : Nat) (k1 : Bool) : FC YX7_restore (d + 1) [.ref 38, .int 0, .null, .null] [(38, .inr (7, [.ref 39, .ref 40, .int bu, .int (nI q), .ref 41, .int (nI n), .ref 42, .int fl, .int fa, .int fw, .int fr, .int rs, .int ac, .ref 43, .ref 44, .ref 45, .ref 46, .ref 47, .ref 48, .ref 49])), (49, .inl (true, 2, (kpF false k1)))] (some (.int (-3))) [(38, .inr (7, [.ref 39, .ref 40, .int bu, .int (nI q), .ref 41, .int (nI n), .ref 42, .int fl, .int fa, .int fw, .int fr, .int rs, .int ac, .ref 43, .ref 44, .ref 45, .ref 46, .ref 47, .ref 48, .ref 49])), (49, .inl (true, 2, (kpF false k1)))] := by
  intro hp
  refine E_iload_n dX7_restore_0 rfl ?_
  refine E_iconst (v := 0) dX7_restore_1 (by decide) ?_
  refine E_iconst (v := 1) dX7_restore_2 (by decide) ?_
  refine E_callS (As := [.int 0, .int 0, .int 1]) (l' := [.int 0, .int 0, .int 1]) (st := []) dX7_restore_3 kX7_48 sX7_in MX7_in rfl rfl (Nat.le_of_ble_eq_true rfl) (FC.use (c_in d _ _ _) rfl (L2 := [(38, .inr (7, [.ref 39, .ref 40, .int bu, .int (nI q), .ref 41, .int (nI n), .ref 42, .int fl, .int fa, .int fw, .int fr, .int rs, .int ac, .ref 43, .ref 44, .ref 45, .ref 46, .ref 47, .ref 48, .ref 49])), (49, .inl (true, 2, (kpF false k1)))]) rfl) (Nat.le_of_ble_eq_true rfl) (fun _ _ hq9 => E_fgo ?_ hq9)
  show E _ _ 6 [.ref 38, .int 0, .null, .null] [.int (b2i (inI 0 0 1))] (hov hp [(38, .inr (7, [.ref 39, .ref 40, .int bu, .int (nI q), .ref 41, .int (nI n), .ref 42, .int fl, .int fa, .int fw, .int fr, .int rs, .int ac, .ref 43, .ref 44, .ref 45, .ref 46, .ref 47, .ref 48, .ref 49])), (49, .inl (true, 2, (kpF false k1)))]) _
  refine E_if_ne (tgt := 12) dX7_restore_6 (by decide) (fun _ => ?_) (fun c => (b2i_x1 (by decide) c).elim)
  refine E_aload_n dX7_restore_12 rfl ?_
  refine E_get dX7_restore_13 fX7_45 (by decide) rfl rfl ?_
  refine E_iload_n dX7_restore_16 rfl ?_
  refine E_zaldN (j := 0) dX7_restore_17 (by decide) rfl (by decide) (by decide) ?_
  refine E_eqi (y := b2i false) rfl ?_
  refine E_if_ne (tgt := 24) dX7_restore_18 (by decide) (fun c => (b2i_x0 rfl c).elim) (fun _ => ?_)
  refine E_bipush (v := (-3)) dX7_restore_21 (by decide) ?_
  exact E_iretf dX7_restore_23 rfl rfl rfl rfl

set_option maxHeartbeats 4000000 in
set_option maxRecDepth 20000 in
theorem m_res_0 (d : Nat) (bu fl fa fw fr rs ac : Int32) (q n : Nat) (s i : CS) (sn sc a b i0 i1 : Nat → Int32) (p : Nat) (k1 : Bool) : FC YX7_restore (d + 1) [.ref 38, .int 0, .null, .null] [(38, .inr (7, [.ref 39, .ref 40, .int bu, .int (nI q), .ref 41, .int (nI n), .ref 42, .int fl, .int fa, .int fw, .int fr, .int rs, .int ac, .ref 43, .ref 44, .ref 45, .ref 46, .ref 47, .ref 48, .ref 49])), (39, .inl (false, 22, (bkF s))), (41, .inl (false, 16, (sgF sn sc))), (48, .inl (false, 100, (imgF (slF i a b p i0) i1))), (49, .inl (true, 2, (kpF true k1)))] (some (.int 1)) [(38, .inr (7, [.ref 39, .ref 40, .int (sbu i), .int (nI p), .ref 41, .int (nI n), .ref 42, .int fl, .int fa, .int fw, .int fr, .int rs, .int ac, .ref 43, .ref 44, .ref 45, .ref 46, .ref 47, .ref 48, .ref 49])), (39, .inl (false, 22, (bkF i))), (41, .inl (false, 16, (sgF a b))), (48, .inl (false, 100, (imgF (slF i a b p i0) i1))), (49, .inl (true, 2, (kpF true k1)))] := by
  intro hp
  refine E_iload_n dX7_restore_0 rfl ?_
  refine E_iconst (v := 0) dX7_restore_1 (by decide) ?_
  refine E_iconst (v := 1) dX7_restore_2 (by decide) ?_
  refine E_callS (As := [.int 0, .int 0, .int 1]) (l' := [.int 0, .int 0, .int 1]) (st := []) dX7_restore_3 kX7_48 sX7_in MX7_in rfl rfl (Nat.le_of_ble_eq_true rfl) (FC.use (c_in d _ _ _) rfl (L2 := [(38, .inr (7, [.ref 39, .ref 40, .int bu, .int (nI q), .ref 41, .int (nI n), .ref 42, .int fl, .int fa, .int fw, .int fr, .int rs, .int ac, .ref 43, .ref 44, .ref 45, .ref 46, .ref 47, .ref 48, .ref 49])), (39, .inl (false, 22, (bkF s))), (41, .inl (false, 16, (sgF sn sc))), (48, .inl (false, 100, (imgF (slF i a b p i0) i1))), (49, .inl (true, 2, (kpF true k1)))]) rfl) (Nat.le_of_ble_eq_true rfl) (fun _ _ hq9 => E_fgo ?_ hq9)
  show E _ _ 6 [.ref 38, .int 0, .null, .null] [.int (b2i (inI 0 0 1))] (hov hp [(38, .inr (7, [.ref 39, .ref 40, .int bu, .int (nI q), .ref 41, .int (nI n), .ref 42, .int fl, .int fa, .int fw, .int fr, .int rs, .int ac, .ref 43, .ref 44, .ref 45, .ref 46, .ref 47, .ref 48, .ref 49])), (39, .inl (false, 22, (bkF s))), (41, .inl (false, 16, (sgF sn sc))), (48, .inl (false, 100, (imgF (slF i a b p i0) i1))), (49, .inl (true, 2, (kpF true k1)))]) _
  refine E_if_ne (tgt := 12) dX7_restore_6 (by decide) (fun _ => ?_) (fun c => (b2i_x1 (by decide) c).elim)
  refine E_aload_n dX7_restore_12 rfl ?_
  refine E_get dX7_restore_13 fX7_45 (by decide) rfl rfl ?_
  refine E_iload_n dX7_restore_16 rfl ?_
  refine E_zaldN (j := 0) dX7_restore_17 (by decide) rfl (by decide) (by decide) ?_
  refine E_eqi (y := b2i true) rfl ?_
  refine E_if_ne (tgt := 24) dX7_restore_18 (by decide) (fun _ => ?_) (fun c => (b2i_x1 rfl c).elim)
  refine E_bipush (v := 50) dX7_restore_24 (by decide) ?_
  refine E_iload_n dX7_restore_26 rfl ?_
  refine E_imul dX7_restore_27 ?_
  refine E_eqi (y := 0) (by decide) ?_
  refine E_eqi (y := nI 0) rfl ?_
  refine E_istore_n (l2 := [.ref 38, .int 0, .int (nI 0), .null]) dX7_restore_28 rfl (by decide) rfl ?_
  refine E_iconst (v := 0) dX7_restore_29 (by decide) ?_
  refine E_istore_n (l2 := [.ref 38, .int 0, .int (nI 0), .int 0]) dX7_restore_30 rfl (by decide) rfl ?_
  have L2 : ∀ j, j ≤ 16 → E YX7_restore (d + 1) 59 [.ref 38, .int 0, .int (nI 0), .int (nI j)] [] (hov hp [(38, .inr (7, [.ref 39, .ref 40, .int bu, .int (nI q), .ref 41, .int (nI n), .ref 42, .int fl, .int fa, .int fw, .int fr, .int rs, .int ac, .ref 43, .ref 44, .ref 45, .ref 46, .ref 47, .ref 48, .ref 49])), (39, .inl (false, 22, (bkF i))), (41, .inl (false, 16, (cpy (sgF sn sc) (sgF a b) j))), (48, .inl (false, 100, (imgF (slF i a b p i0) i1))), (49, .inl (true, 2, (kpF true k1)))]) (fun v h' => v = some (.int 1) ∧ h' = hov hp [(38, .inr (7, [.ref 39, .ref 40, .int (sbu i), .int (nI p), .ref 41, .int (nI n), .ref 42, .int fl, .int fa, .int fw, .int fr, .int rs, .int ac, .ref 43, .ref 44, .ref 45, .ref 46, .ref 47, .ref 48, .ref 49])), (39, .inl (false, 22, (bkF i))), (41, .inl (false, 16, (sgF a b))), (48, .inl (false, 100, (imgF (slF i a b p i0) i1))), (49, .inl (true, 2, (kpF true k1)))]) := by
    refine down 16 ?_ ?_
    · refine E_iload_n dX7_restore_59 rfl ?_
      refine E_bipush (v := 16) dX7_restore_60 (by decide) ?_
      refine E_icmp_ge (tgt := 88) dX7_restore_62 (by decide) (fun _ => ?_) (fun c => absurd (by decide) c)
      refine E_aload_n dX7_restore_88 rfl ?_
      rw [cpy_all (fun j hj => (sg_out hj).trans (sg_out hj).symm)]
      refine E_aload_n dX7_restore_89 rfl ?_
      refine E_get dX7_restore_90 fX7_42 (by decide) rfl rfl ?_
      refine E_iload_n dX7_restore_93 rfl ?_
      refine E_bipush (v := 45) dX7_restore_94 (by decide) ?_
      refine E_iadd dX7_restore_96 ?_
      refine E_eqi (y := nI 45) rfl ?_
      refine E_ialdN (j := 45) dX7_restore_97 (by decide) rfl (by decide) (by decide) ?_
      refine E_eqi (y := sbu i) rfl ?_
      refine E_puti (fs2 := [.ref 39, .ref 40, .int (sbu i), .int (nI q), .ref 41, .int (nI n), .ref 42, .int fl, .int fa, .int fw, .int fr, .int rs, .int ac, .ref 43, .ref 44, .ref 45, .ref 46, .ref 47, .ref 48, .ref 49]) (L2 := [(38, .inr (7, [.ref 39, .ref 40, .int (sbu i), .int (nI q), .ref 41, .int (nI n), .ref 42, .int fl, .int fa, .int fw, .int fr, .int rs, .int ac, .ref 43, .ref 44, .ref 45, .ref 46, .ref 47, .ref 48, .ref 49])), (39, .inl (false, 22, (bkF i))), (41, .inl (false, 16, (sgF a b))), (48, .inl (false, 100, (imgF (slF i a b p i0) i1))), (49, .inl (true, 2, (kpF true k1)))]) dX7_restore_98 fX7_16 fpX7_2 (by decide) rfl (Nat.le_of_ble_eq_true rfl) rfl rfl ?_
      refine E_aload_n dX7_restore_101 rfl ?_
      refine E_aload_n dX7_restore_102 rfl ?_
      refine E_get dX7_restore_103 fX7_42 (by decide) rfl rfl ?_
      refine E_iload_n dX7_restore_106 rfl ?_
      refine E_bipush (v := 46) dX7_restore_107 (by decide) ?_
      refine E_iadd dX7_restore_109 ?_
      refine E_eqi (y := nI 46) rfl ?_
      refine E_ialdN (j := 46) dX7_restore_110 (by decide) rfl (by decide) (by decide) ?_
      refine E_eqi (y := nI p) rfl ?_
      refine E_puti (fs2 := [.ref 39, .ref 40, .int (sbu i), .int (nI p), .ref 41, .int (nI n), .ref 42, .int fl, .int fa, .int fw, .int fr, .int rs, .int ac, .ref 43, .ref 44, .ref 45, .ref 46, .ref 47, .ref 48, .ref 49]) (L2 := [(38, .inr (7, [.ref 39, .ref 40, .int (sbu i), .int (nI p), .ref 41, .int (nI n), .ref 42, .int fl, .int fa, .int fw, .int fr, .int rs, .int ac, .ref 43, .ref 44, .ref 45, .ref 46, .ref 47, .ref 48, .ref 49])), (39, .inl (false, 22, (bkF i))), (41, .inl (false, 16, (sgF a b))), (48, .inl (false, 100, (imgF (slF i a b p i0) i1))), (49, .inl (true, 2, (kpF true k1)))]) dX7_restore_111 fX7_131 fpX7_3 (by decide) rfl (Nat.le_of_ble_eq_true rfl) rfl rfl ?_
      refine E_iconst (v := 1) dX7_restore_114 (by decide) ?_
      exact E_iretf dX7_restore_115 rfl rfl rfl rfl
    · intro j hi ih
      refine E_iload_n dX7_restore_59 rfl ?_
      refine E_bipush (v := 16) dX7_restore_60 (by decide) ?_
      refine E_icmp_ge (tgt := 88) dX7_restore_62 (by decide) (fun c => absurd c (cI_nle (n := 16) rfl hi (by decide))) (fun _ => ?_)
      refine E_aload_n dX7_restore_65 rfl ?_
      refine E_get dX7_restore_66 fX7_20 (by decide) rfl rfl ?_
      refine E_iload_n dX7_restore_69 rfl ?_
      refine E_aload_n dX7_restore_70 rfl ?_
      refine E_get dX7_restore_71 fX7_42 (by decide) rfl rfl ?_
      refine E_iload_n dX7_restore_74 rfl ?_
      refine E_bipush (v := 22) dX7_restore_75 (by decide) ?_
      refine E_iadd dX7_restore_77 ?_
      refine E_eqi (y := nI 22) rfl ?_
      refine E_iload_n dX7_restore_78 rfl ?_
      refine E_iadd dX7_restore_79 ?_
      refine E_eqi (y := nI (22 + j)) (nI_add 22 _) ?_
      refine E_ialdN (j := 22 + j) dX7_restore_80 (by decide) rfl (by omega) (by decide) ?_
      refine E_eqi (y := sgF a b j) ((img_g0 (k := 22 + j) (by omega)).trans (sl_s hi)) ?_
      refine E_iastN (j := j) (f2 := cpy (sgF sn sc) (sgF a b) (j + 1)) (L2 := [(38, .inr (7, [.ref 39, .ref 40, .int bu, .int (nI q), .ref 41, .int (nI n), .ref 42, .int fl, .int fa, .int fw, .int fr, .int rs, .int ac, .ref 43, .ref 44, .ref 45, .ref 46, .ref 47, .ref 48, .ref 49])), (39, .inl (false, 22, (bkF i))), (41, .inl (false, 16, (cpy (sgF sn sc) (sgF a b) (j + 1)))), (48, .inl (false, 100, (imgF (slF i a b p i0) i1))), (49, .inl (true, 2, (kpF true k1)))]) dX7_restore_81 (by decide) rfl (by omega) (by decide) (cpy_s _ _ _) rfl ?_
      refine E_iinc (y := nI (j + 1)) (l2 := [.ref 38, .int 0, .int (nI 0), .int (nI (j + 1))]) dX7_restore_82 rfl (nI_1 _) (by decide) rfl ?_
      refine E_goto (tgt := 59) dX7_restore_85 (by decide) ?_
      exact ih
  have L1 : ∀ j, j ≤ 22 → E YX7_restore (d + 1) 31 [.ref 38, .int 0, .int (nI 0), .int (nI j)] [] (hov hp [(38, .inr (7, [.ref 39, .ref 40, .int bu, .int (nI q), .ref 41, .int (nI n), .ref 42, .int fl, .int fa, .int fw, .int fr, .int rs, .int ac, .ref 43, .ref 44, .ref 45, .ref 46, .ref 47, .ref 48, .ref 49])), (39, .inl (false, 22, (cpy (bkF s) (bkF i) j))), (41, .inl (false, 16, (sgF sn sc))), (48, .inl (false, 100, (imgF (slF i a b p i0) i1))), (49, .inl (true, 2, (kpF true k1)))]) (fun v h' => v = some (.int 1) ∧ h' = hov hp [(38, .inr (7, [.ref 39, .ref 40, .int (sbu i), .int (nI p), .ref 41, .int (nI n), .ref 42, .int fl, .int fa, .int fw, .int fr, .int rs, .int ac, .ref 43, .ref 44, .ref 45, .ref 46, .ref 47, .ref 48, .ref 49])), (39, .inl (false, 22, (bkF i))), (41, .inl (false, 16, (sgF a b))), (48, .inl (false, 100, (imgF (slF i a b p i0) i1))), (49, .inl (true, 2, (kpF true k1)))]) := by
    refine down 22 ?_ ?_
    · refine E_iload_n dX7_restore_31 rfl ?_
      refine E_bipush (v := 22) dX7_restore_32 (by decide) ?_
      refine E_icmp_ge (tgt := 57) dX7_restore_34 (by decide) (fun _ => ?_) (fun c => absurd (by decide) c)
      refine E_iconst (v := 0) dX7_restore_57 (by decide) ?_
      rw [cpy_all (fun j hj => (bk_out hj).trans (bk_out hj).symm)]
      refine E_istore_n (l2 := [.ref 38, .int 0, .int (nI 0), .int 0]) dX7_restore_58 rfl (by decide) rfl ?_
      have e0 := L2 0 (by decide)
      rw [cpy_0] at e0
      exact e0
    · intro j hi ih
      refine E_iload_n dX7_restore_31 rfl ?_
      refine E_bipush (v := 22) dX7_restore_32 (by decide) ?_
      refine E_icmp_ge (tgt := 57) dX7_restore_34 (by decide) (fun c => absurd c (cI_nle (n := 22) rfl hi (by decide))) (fun _ => ?_)
      refine E_aload_n dX7_restore_37 rfl ?_
      refine E_get dX7_restore_38 fX7_7 (by decide) rfl rfl ?_
      refine E_iload_n dX7_restore_41 rfl ?_
      refine E_aload_n dX7_restore_42 rfl ?_
      refine E_get dX7_restore_43 fX7_42 (by decide) rfl rfl ?_
      refine E_iload_n dX7_restore_46 rfl ?_
      refine E_iload_n dX7_restore_47 rfl ?_
      refine E_iadd dX7_restore_48 ?_
      refine E_eqi (y := nI j) ((nI_add 0 j).trans (by rw [Nat.zero_add])) ?_
      refine E_ialdN (j := j) dX7_restore_49 (by decide) rfl (by omega) (by decide) ?_
      refine E_eqi (y := bkF i j) ((img_g0 (k := j) (by omega)).trans (sl_b hi)) ?_
      refine E_iastN (j := j) (f2 := cpy (bkF s) (bkF i) (j + 1)) (L2 := [(38, .inr (7, [.ref 39, .ref 40, .int bu, .int (nI q), .ref 41, .int (nI n), .ref 42, .int fl, .int fa, .int fw, .int fr, .int rs, .int ac, .ref 43, .ref 44, .ref 45, .ref 46, .ref 47, .ref 48, .ref 49])), (39, .inl (false, 22, (cpy (bkF s) (bkF i) (j + 1)))), (41, .inl (false, 16, (sgF sn sc))), (48, .inl (false, 100, (imgF (slF i a b p i0) i1))), (49, .inl (true, 2, (kpF true k1)))]) dX7_restore_50 (by decide) rfl (by omega) (by decide) (cpy_s _ _ _) rfl ?_
      refine E_iinc (y := nI (j + 1)) (l2 := [.ref 38, .int 0, .int (nI 0), .int (nI (j + 1))]) dX7_restore_51 rfl (nI_1 _) (by decide) rfl ?_
      refine E_goto (tgt := 31) dX7_restore_54 (by decide) ?_
      exact ih
  have e0 := L1 0 (by decide)
  rw [cpy_0] at e0
  exact e0

set_option maxHeartbeats 4000000 in
set_option maxRecDepth 20000 in
theorem m_img_1 (d : Nat) (fl fa fw fr rs ac : Int32) (q n : Nat) (s : CS) (sn sc i0 i1 : Nat → Int32) (k0 k1 : Bool) : FC YX7_image (d + 1) [.ref 38, .int 1, .null, .null] [(38, .inr (7, [.ref 39, .ref 40, .int (sbu s), .int (nI q), .ref 41, .int (nI n), .ref 42, .int fl, .int fa, .int fw, .int fr, .int rs, .int ac, .ref 43, .ref 44, .ref 45, .ref 46, .ref 47, .ref 48, .ref 49])), (39, .inl (false, 22, (bkF s))), (41, .inl (false, 16, (sgF sn sc))), (48, .inl (false, 100, (imgF i0 i1))), (49, .inl (true, 2, (kpF k0 k1)))] (some (.int 1)) [(38, .inr (7, [.ref 39, .ref 40, .int (sbu s), .int (nI q), .ref 41, .int (nI n), .ref 42, .int fl, .int fa, .int fw, .int fr, .int rs, .int ac, .ref 43, .ref 44, .ref 45, .ref 46, .ref 47, .ref 48, .ref 49])), (39, .inl (false, 22, (bkF s))), (41, .inl (false, 16, (sgF sn sc))), (48, .inl (false, 100, (imgF i0 (slF s sn sc q i1)))), (49, .inl (true, 2, (kpF k0 true)))] := by
  intro hp
  refine E_iload_n dX7_image_0 rfl ?_
  refine E_iconst (v := 0) dX7_image_1 (by decide) ?_
  refine E_iconst (v := 1) dX7_image_2 (by decide) ?_
  refine E_callS (As := [.int 1, .int 0, .int 1]) (l' := [.int 1, .int 0, .int 1]) (st := []) dX7_image_3 kX7_48 sX7_in MX7_in rfl rfl (Nat.le_of_ble_eq_true rfl) (FC.use (c_in d _ _ _) rfl (L2 := [(38, .inr (7, [.ref 39, .ref 40, .int (sbu s), .int (nI q), .ref 41, .int (nI n), .ref 42, .int fl, .int fa, .int fw, .int fr, .int rs, .int ac, .ref 43, .ref 44, .ref 45, .ref 46, .ref 47, .ref 48, .ref 49])), (39, .inl (false, 22, (bkF s))), (41, .inl (false, 16, (sgF sn sc))), (48, .inl (false, 100, (imgF i0 i1))), (49, .inl (true, 2, (kpF k0 k1)))]) rfl) (Nat.le_of_ble_eq_true rfl) (fun _ _ hq9 => E_fgo ?_ hq9)
  show E _ _ 6 [.ref 38, .int 1, .null, .null] [.int (b2i (inI 1 0 1))] (hov hp [(38, .inr (7, [.ref 39, .ref 40, .int (sbu s), .int (nI q), .ref 41, .int (nI n), .ref 42, .int fl, .int fa, .int fw, .int fr, .int rs, .int ac, .ref 43, .ref 44, .ref 45, .ref 46, .ref 47, .ref 48, .ref 49])), (39, .inl (false, 22, (bkF s))), (41, .inl (false, 16, (sgF sn sc))), (48, .inl (false, 100, (imgF i0 i1))), (49, .inl (true, 2, (kpF k0 k1)))]) _
  refine E_if_ne (tgt := 12) dX7_image_6 (by decide) (fun _ => ?_) (fun c => (b2i_x1 (by decide) c).elim)
  refine E_bipush (v := 50) dX7_image_12 (by decide) ?_
  refine E_iload_n dX7_image_14 rfl ?_
  refine E_imul dX7_image_15 ?_
  refine E_eqi (y := 50) (by decide) ?_
  refine E_eqi (y := nI 50) rfl ?_
  refine E_istore_n (l2 := [.ref 38, .int 1, .int (nI 50), .null]) dX7_image_16 rfl (by decide) rfl ?_
  refine E_iconst (v := 0) dX7_image_17 (by decide) ?_
  refine E_istore_n (l2 := [.ref 38, .int 1, .int (nI 50), .int 0]) dX7_image_18 rfl (by decide) rfl ?_
  have L2 : ∀ i, i ≤ 16 → E YX7_image (d + 1) 47 [.ref 38, .int 1, .int (nI 50), .int (nI i)] [] (hov hp [(38, .inr (7, [.ref 39, .ref 40, .int (sbu s), .int (nI q), .ref 41, .int (nI n), .ref 42, .int fl, .int fa, .int fw, .int fr, .int rs, .int ac, .ref 43, .ref 44, .ref 45, .ref 46, .ref 47, .ref 48, .ref 49])), (39, .inl (false, 22, (bkF s))), (41, .inl (false, 16, (sgF sn sc))), (48, .inl (false, 100, (cpo (cpo (imgF i0 i1) (bkF s) 50 22) (sgF sn sc) 72 i))), (49, .inl (true, 2, (kpF k0 k1)))]) (fun v h' => v = some (.int 1) ∧ h' = hov hp [(38, .inr (7, [.ref 39, .ref 40, .int (sbu s), .int (nI q), .ref 41, .int (nI n), .ref 42, .int fl, .int fa, .int fw, .int fr, .int rs, .int ac, .ref 43, .ref 44, .ref 45, .ref 46, .ref 47, .ref 48, .ref 49])), (39, .inl (false, 22, (bkF s))), (41, .inl (false, 16, (sgF sn sc))), (48, .inl (false, 100, (imgF i0 (slF s sn sc q i1)))), (49, .inl (true, 2, (kpF k0 true)))]) := by
    refine down 16 ?_ ?_
    · refine E_iload_n dX7_image_47 rfl ?_
      refine E_bipush (v := 16) dX7_image_48 (by decide) ?_
      refine E_icmp_ge (tgt := 76) dX7_image_50 (by decide) (fun _ => ?_) (fun c => absurd (by decide) c)
      refine E_aload_n dX7_image_76 rfl ?_
      refine E_get dX7_image_77 fX7_42 (by decide) rfl rfl ?_
      refine E_iload_n dX7_image_80 rfl ?_
      refine E_bipush (v := 45) dX7_image_81 (by decide) ?_
      refine E_iadd dX7_image_83 ?_
      refine E_eqi (y := nI 95) rfl ?_
      refine E_aload_n dX7_image_84 rfl ?_
      refine E_get dX7_image_85 fX7_16 (by decide) rfl rfl ?_
      refine E_iastN (j := 95) (f2 := upd (cpo (cpo (imgF i0 i1) (bkF s) 50 22) (sgF sn sc) 72 16) 95 (sbu s)) (L2 := [(38, .inr (7, [.ref 39, .ref 40, .int (sbu s), .int (nI q), .ref 41, .int (nI n), .ref 42, .int fl, .int fa, .int fw, .int fr, .int rs, .int ac, .ref 43, .ref 44, .ref 45, .ref 46, .ref 47, .ref 48, .ref 49])), (39, .inl (false, 22, (bkF s))), (41, .inl (false, 16, (sgF sn sc))), (48, .inl (false, 100, (upd (cpo (cpo (imgF i0 i1) (bkF s) 50 22) (sgF sn sc) 72 16) 95 (sbu s)))), (49, .inl (true, 2, (kpF k0 k1)))]) dX7_image_88 (by decide) rfl (by omega) (by decide) rfl rfl ?_
      refine E_aload_n dX7_image_89 rfl ?_
      refine E_get dX7_image_90 fX7_42 (by decide) rfl rfl ?_
      refine E_iload_n dX7_image_93 rfl ?_
      refine E_bipush (v := 46) dX7_image_94 (by decide) ?_
      refine E_iadd dX7_image_96 ?_
      refine E_eqi (y := nI 96) rfl ?_
      refine E_aload_n dX7_image_97 rfl ?_
      refine E_get dX7_image_98 fX7_131 (by decide) rfl rfl ?_
      refine E_iastN (j := 96) (f2 := (imgF i0 (slF s sn sc q i1))) (L2 := [(38, .inr (7, [.ref 39, .ref 40, .int (sbu s), .int (nI q), .ref 41, .int (nI n), .ref 42, .int fl, .int fa, .int fw, .int fr, .int rs, .int ac, .ref 43, .ref 44, .ref 45, .ref 46, .ref 47, .ref 48, .ref 49])), (39, .inl (false, 22, (bkF s))), (41, .inl (false, 16, (sgF sn sc))), (48, .inl (false, 100, (imgF i0 (slF s sn sc q i1)))), (49, .inl (true, 2, (kpF k0 k1)))]) dX7_image_101 (by decide) rfl (by omega) (by decide) im_1 rfl ?_
      refine E_aload_n dX7_image_102 rfl ?_
      refine E_get dX7_image_103 fX7_45 (by decide) rfl rfl ?_
      refine E_iload_n dX7_image_106 rfl ?_
      refine E_iconst (v := 1) dX7_image_107 (by decide) ?_
      refine E_zastN (j := 1) (f2 := kpF k0 true) (L2 := [(38, .inr (7, [.ref 39, .ref 40, .int (sbu s), .int (nI q), .ref 41, .int (nI n), .ref 42, .int fl, .int fa, .int fw, .int fr, .int rs, .int ac, .ref 43, .ref 44, .ref 45, .ref 46, .ref 47, .ref 48, .ref 49])), (39, .inl (false, 22, (bkF s))), (41, .inl (false, 16, (sgF sn sc))), (48, .inl (false, 100, (imgF i0 (slF s sn sc q i1)))), (49, .inl (true, 2, (kpF k0 true)))]) dX7_image_108 (by decide) rfl (by omega) (by decide) kp_1 rfl ?_
      refine E_iconst (v := 1) dX7_image_109 (by decide) ?_
      exact E_iretf dX7_image_110 rfl rfl rfl rfl
    · intro i hi ih
      refine E_iload_n dX7_image_47 rfl ?_
      refine E_bipush (v := 16) dX7_image_48 (by decide) ?_
      refine E_icmp_ge (tgt := 76) dX7_image_50 (by decide) (fun c => absurd c (cI_nle (n := 16) rfl hi (by decide))) (fun _ => ?_)
      refine E_aload_n dX7_image_53 rfl ?_
      refine E_get dX7_image_54 fX7_42 (by decide) rfl rfl ?_
      refine E_iload_n dX7_image_57 rfl ?_
      refine E_bipush (v := 22) dX7_image_58 (by decide) ?_
      refine E_iadd dX7_image_60 ?_
      refine E_eqi (y := nI 72) rfl ?_
      refine E_iload_n dX7_image_61 rfl ?_
      refine E_iadd dX7_image_62 ?_
      refine E_eqi (y := nI (72 + i)) (nI_add 72 _) ?_
      refine E_aload_n dX7_image_63 rfl ?_
      refine E_get dX7_image_64 fX7_20 (by decide) rfl rfl ?_
      refine E_iload_n dX7_image_67 rfl ?_
      refine E_ialdN (j := i) dX7_image_68 (by decide) rfl (by omega) (by decide) ?_
      refine E_iastN (j := 72 + i) (f2 := (cpo (cpo (imgF i0 i1) (bkF s) 50 22) (sgF sn sc) 72 (i + 1))) (L2 := [(38, .inr (7, [.ref 39, .ref 40, .int (sbu s), .int (nI q), .ref 41, .int (nI n), .ref 42, .int fl, .int fa, .int fw, .int fr, .int rs, .int ac, .ref 43, .ref 44, .ref 45, .ref 46, .ref 47, .ref 48, .ref 49])), (39, .inl (false, 22, (bkF s))), (41, .inl (false, 16, (sgF sn sc))), (48, .inl (false, 100, (cpo (cpo (imgF i0 i1) (bkF s) 50 22) (sgF sn sc) 72 (i + 1)))), (49, .inl (true, 2, (kpF k0 k1)))]) dX7_image_69 (by decide) rfl (by omega) (by decide) (cpo_s _ _ _ _) rfl ?_
      refine E_iinc (y := nI (i + 1)) (l2 := [.ref 38, .int 1, .int (nI 50), .int (nI (i + 1))]) dX7_image_70 rfl (nI_1 _) (by decide) rfl ?_
      refine E_goto (tgt := 47) dX7_image_73 (by decide) ?_
      exact ih
  have L1 : ∀ i, i ≤ 22 → E YX7_image (d + 1) 19 [.ref 38, .int 1, .int (nI 50), .int (nI i)] [] (hov hp [(38, .inr (7, [.ref 39, .ref 40, .int (sbu s), .int (nI q), .ref 41, .int (nI n), .ref 42, .int fl, .int fa, .int fw, .int fr, .int rs, .int ac, .ref 43, .ref 44, .ref 45, .ref 46, .ref 47, .ref 48, .ref 49])), (39, .inl (false, 22, (bkF s))), (41, .inl (false, 16, (sgF sn sc))), (48, .inl (false, 100, (cpo (imgF i0 i1) (bkF s) 50 i))), (49, .inl (true, 2, (kpF k0 k1)))]) (fun v h' => v = some (.int 1) ∧ h' = hov hp [(38, .inr (7, [.ref 39, .ref 40, .int (sbu s), .int (nI q), .ref 41, .int (nI n), .ref 42, .int fl, .int fa, .int fw, .int fr, .int rs, .int ac, .ref 43, .ref 44, .ref 45, .ref 46, .ref 47, .ref 48, .ref 49])), (39, .inl (false, 22, (bkF s))), (41, .inl (false, 16, (sgF sn sc))), (48, .inl (false, 100, (imgF i0 (slF s sn sc q i1)))), (49, .inl (true, 2, (kpF k0 true)))]) := by
    refine down 22 ?_ ?_
    · refine E_iload_n dX7_image_19 rfl ?_
      refine E_bipush (v := 22) dX7_image_20 (by decide) ?_
      refine E_icmp_ge (tgt := 45) dX7_image_22 (by decide) (fun _ => ?_) (fun c => absurd (by decide) c)
      refine E_iconst (v := 0) dX7_image_45 (by decide) ?_
      refine E_istore_n (l2 := [.ref 38, .int 1, .int (nI 50), .int 0]) dX7_image_46 rfl (by decide) rfl ?_
      have e0 := L2 0 (by decide)
      rw [cpo_0] at e0
      exact e0
    · intro i hi ih
      refine E_iload_n dX7_image_19 rfl ?_
      refine E_bipush (v := 22) dX7_image_20 (by decide) ?_
      refine E_icmp_ge (tgt := 45) dX7_image_22 (by decide) (fun c => absurd c (cI_nle (n := 22) rfl hi (by decide))) (fun _ => ?_)
      refine E_aload_n dX7_image_25 rfl ?_
      refine E_get dX7_image_26 fX7_42 (by decide) rfl rfl ?_
      refine E_iload_n dX7_image_29 rfl ?_
      refine E_iload_n dX7_image_30 rfl ?_
      refine E_iadd dX7_image_31 ?_
      refine E_eqi (y := nI (50 + i)) (nI_add 50 _) ?_
      refine E_aload_n dX7_image_32 rfl ?_
      refine E_get dX7_image_33 fX7_7 (by decide) rfl rfl ?_
      refine E_iload_n dX7_image_36 rfl ?_
      refine E_ialdN (j := i) dX7_image_37 (by decide) rfl (by omega) (by decide) ?_
      refine E_iastN (j := 50 + i) (f2 := (cpo (imgF i0 i1) (bkF s) 50 (i + 1))) (L2 := [(38, .inr (7, [.ref 39, .ref 40, .int (sbu s), .int (nI q), .ref 41, .int (nI n), .ref 42, .int fl, .int fa, .int fw, .int fr, .int rs, .int ac, .ref 43, .ref 44, .ref 45, .ref 46, .ref 47, .ref 48, .ref 49])), (39, .inl (false, 22, (bkF s))), (41, .inl (false, 16, (sgF sn sc))), (48, .inl (false, 100, (cpo (imgF i0 i1) (bkF s) 50 (i + 1)))), (49, .inl (true, 2, (kpF k0 k1)))]) dX7_image_38 (by decide) rfl (by omega) (by decide) (cpo_s _ _ _ _) rfl ?_
      refine E_iinc (y := nI (i + 1)) (l2 := [.ref 38, .int 1, .int (nI 50), .int (nI (i + 1))]) dX7_image_39 rfl (nI_1 _) (by decide) rfl ?_
      refine E_goto (tgt := 19) dX7_image_42 (by decide) ?_
      exact ih
  have e0 := L1 0 (by decide)
  rw [cpo_0] at e0
  exact e0

set_option maxHeartbeats 4000000 in
set_option maxRecDepth 20000 in
theorem m_res_st_1 (d : Nat) (bu fl fa fw fr rs ac : Int32) (q n : Nat) (k0 : Bool) : FC YX7_restore (d + 1) [.ref 38, .int 1, .null, .null] [(38, .inr (7, [.ref 39, .ref 40, .int bu, .int (nI q), .ref 41, .int (nI n), .ref 42, .int fl, .int fa, .int fw, .int fr, .int rs, .int ac, .ref 43, .ref 44, .ref 45, .ref 46, .ref 47, .ref 48, .ref 49])), (49, .inl (true, 2, (kpF k0 false)))] (some (.int (-3))) [(38, .inr (7, [.ref 39, .ref 40, .int bu, .int (nI q), .ref 41, .int (nI n), .ref 42, .int fl, .int fa, .int fw, .int fr, .int rs, .int ac, .ref 43, .ref 44, .ref 45, .ref 46, .ref 47, .ref 48, .ref 49])), (49, .inl (true, 2, (kpF k0 false)))] := by
  intro hp
  refine E_iload_n dX7_restore_0 rfl ?_
  refine E_iconst (v := 0) dX7_restore_1 (by decide) ?_
  refine E_iconst (v := 1) dX7_restore_2 (by decide) ?_
  refine E_callS (As := [.int 1, .int 0, .int 1]) (l' := [.int 1, .int 0, .int 1]) (st := []) dX7_restore_3 kX7_48 sX7_in MX7_in rfl rfl (Nat.le_of_ble_eq_true rfl) (FC.use (c_in d _ _ _) rfl (L2 := [(38, .inr (7, [.ref 39, .ref 40, .int bu, .int (nI q), .ref 41, .int (nI n), .ref 42, .int fl, .int fa, .int fw, .int fr, .int rs, .int ac, .ref 43, .ref 44, .ref 45, .ref 46, .ref 47, .ref 48, .ref 49])), (49, .inl (true, 2, (kpF k0 false)))]) rfl) (Nat.le_of_ble_eq_true rfl) (fun _ _ hq9 => E_fgo ?_ hq9)
  show E _ _ 6 [.ref 38, .int 1, .null, .null] [.int (b2i (inI 1 0 1))] (hov hp [(38, .inr (7, [.ref 39, .ref 40, .int bu, .int (nI q), .ref 41, .int (nI n), .ref 42, .int fl, .int fa, .int fw, .int fr, .int rs, .int ac, .ref 43, .ref 44, .ref 45, .ref 46, .ref 47, .ref 48, .ref 49])), (49, .inl (true, 2, (kpF k0 false)))]) _
  refine E_if_ne (tgt := 12) dX7_restore_6 (by decide) (fun _ => ?_) (fun c => (b2i_x1 (by decide) c).elim)
  refine E_aload_n dX7_restore_12 rfl ?_
  refine E_get dX7_restore_13 fX7_45 (by decide) rfl rfl ?_
  refine E_iload_n dX7_restore_16 rfl ?_
  refine E_zaldN (j := 1) dX7_restore_17 (by decide) rfl (by decide) (by decide) ?_
  refine E_eqi (y := b2i false) rfl ?_
  refine E_if_ne (tgt := 24) dX7_restore_18 (by decide) (fun c => (b2i_x0 rfl c).elim) (fun _ => ?_)
  refine E_bipush (v := (-3)) dX7_restore_21 (by decide) ?_
  exact E_iretf dX7_restore_23 rfl rfl rfl rfl

set_option maxHeartbeats 4000000 in
set_option maxRecDepth 20000 in
theorem m_res_1 (d : Nat) (bu fl fa fw fr rs ac : Int32) (q n : Nat) (s i : CS) (sn sc a b i0 i1 : Nat → Int32) (p : Nat) (k0 : Bool) : FC YX7_restore (d + 1) [.ref 38, .int 1, .null, .null] [(38, .inr (7, [.ref 39, .ref 40, .int bu, .int (nI q), .ref 41, .int (nI n), .ref 42, .int fl, .int fa, .int fw, .int fr, .int rs, .int ac, .ref 43, .ref 44, .ref 45, .ref 46, .ref 47, .ref 48, .ref 49])), (39, .inl (false, 22, (bkF s))), (41, .inl (false, 16, (sgF sn sc))), (48, .inl (false, 100, (imgF i0 (slF i a b p i1)))), (49, .inl (true, 2, (kpF k0 true)))] (some (.int 1)) [(38, .inr (7, [.ref 39, .ref 40, .int (sbu i), .int (nI p), .ref 41, .int (nI n), .ref 42, .int fl, .int fa, .int fw, .int fr, .int rs, .int ac, .ref 43, .ref 44, .ref 45, .ref 46, .ref 47, .ref 48, .ref 49])), (39, .inl (false, 22, (bkF i))), (41, .inl (false, 16, (sgF a b))), (48, .inl (false, 100, (imgF i0 (slF i a b p i1)))), (49, .inl (true, 2, (kpF k0 true)))] := by
  intro hp
  refine E_iload_n dX7_restore_0 rfl ?_
  refine E_iconst (v := 0) dX7_restore_1 (by decide) ?_
  refine E_iconst (v := 1) dX7_restore_2 (by decide) ?_
  refine E_callS (As := [.int 1, .int 0, .int 1]) (l' := [.int 1, .int 0, .int 1]) (st := []) dX7_restore_3 kX7_48 sX7_in MX7_in rfl rfl (Nat.le_of_ble_eq_true rfl) (FC.use (c_in d _ _ _) rfl (L2 := [(38, .inr (7, [.ref 39, .ref 40, .int bu, .int (nI q), .ref 41, .int (nI n), .ref 42, .int fl, .int fa, .int fw, .int fr, .int rs, .int ac, .ref 43, .ref 44, .ref 45, .ref 46, .ref 47, .ref 48, .ref 49])), (39, .inl (false, 22, (bkF s))), (41, .inl (false, 16, (sgF sn sc))), (48, .inl (false, 100, (imgF i0 (slF i a b p i1)))), (49, .inl (true, 2, (kpF k0 true)))]) rfl) (Nat.le_of_ble_eq_true rfl) (fun _ _ hq9 => E_fgo ?_ hq9)
  show E _ _ 6 [.ref 38, .int 1, .null, .null] [.int (b2i (inI 1 0 1))] (hov hp [(38, .inr (7, [.ref 39, .ref 40, .int bu, .int (nI q), .ref 41, .int (nI n), .ref 42, .int fl, .int fa, .int fw, .int fr, .int rs, .int ac, .ref 43, .ref 44, .ref 45, .ref 46, .ref 47, .ref 48, .ref 49])), (39, .inl (false, 22, (bkF s))), (41, .inl (false, 16, (sgF sn sc))), (48, .inl (false, 100, (imgF i0 (slF i a b p i1)))), (49, .inl (true, 2, (kpF k0 true)))]) _
  refine E_if_ne (tgt := 12) dX7_restore_6 (by decide) (fun _ => ?_) (fun c => (b2i_x1 (by decide) c).elim)
  refine E_aload_n dX7_restore_12 rfl ?_
  refine E_get dX7_restore_13 fX7_45 (by decide) rfl rfl ?_
  refine E_iload_n dX7_restore_16 rfl ?_
  refine E_zaldN (j := 1) dX7_restore_17 (by decide) rfl (by decide) (by decide) ?_
  refine E_eqi (y := b2i true) rfl ?_
  refine E_if_ne (tgt := 24) dX7_restore_18 (by decide) (fun _ => ?_) (fun c => (b2i_x1 rfl c).elim)
  refine E_bipush (v := 50) dX7_restore_24 (by decide) ?_
  refine E_iload_n dX7_restore_26 rfl ?_
  refine E_imul dX7_restore_27 ?_
  refine E_eqi (y := 50) (by decide) ?_
  refine E_eqi (y := nI 50) rfl ?_
  refine E_istore_n (l2 := [.ref 38, .int 1, .int (nI 50), .null]) dX7_restore_28 rfl (by decide) rfl ?_
  refine E_iconst (v := 0) dX7_restore_29 (by decide) ?_
  refine E_istore_n (l2 := [.ref 38, .int 1, .int (nI 50), .int 0]) dX7_restore_30 rfl (by decide) rfl ?_
  have L2 : ∀ j, j ≤ 16 → E YX7_restore (d + 1) 59 [.ref 38, .int 1, .int (nI 50), .int (nI j)] [] (hov hp [(38, .inr (7, [.ref 39, .ref 40, .int bu, .int (nI q), .ref 41, .int (nI n), .ref 42, .int fl, .int fa, .int fw, .int fr, .int rs, .int ac, .ref 43, .ref 44, .ref 45, .ref 46, .ref 47, .ref 48, .ref 49])), (39, .inl (false, 22, (bkF i))), (41, .inl (false, 16, (cpy (sgF sn sc) (sgF a b) j))), (48, .inl (false, 100, (imgF i0 (slF i a b p i1)))), (49, .inl (true, 2, (kpF k0 true)))]) (fun v h' => v = some (.int 1) ∧ h' = hov hp [(38, .inr (7, [.ref 39, .ref 40, .int (sbu i), .int (nI p), .ref 41, .int (nI n), .ref 42, .int fl, .int fa, .int fw, .int fr, .int rs, .int ac, .ref 43, .ref 44, .ref 45, .ref 46, .ref 47, .ref 48, .ref 49])), (39, .inl (false, 22, (bkF i))), (41, .inl (false, 16, (sgF a b))), (48, .inl (false, 100, (imgF i0 (slF i a b p i1)))), (49, .inl (true, 2, (kpF k0 true)))]) := by
    refine down 16 ?_ ?_
    · refine E_iload_n dX7_restore_59 rfl ?_
      refine E_bipush (v := 16) dX7_restore_60 (by decide) ?_
      refine E_icmp_ge (tgt := 88) dX7_restore_62 (by decide) (fun _ => ?_) (fun c => absurd (by decide) c)
      refine E_aload_n dX7_restore_88 rfl ?_
      rw [cpy_all (fun j hj => (sg_out hj).trans (sg_out hj).symm)]
      refine E_aload_n dX7_restore_89 rfl ?_
      refine E_get dX7_restore_90 fX7_42 (by decide) rfl rfl ?_
      refine E_iload_n dX7_restore_93 rfl ?_
      refine E_bipush (v := 45) dX7_restore_94 (by decide) ?_
      refine E_iadd dX7_restore_96 ?_
      refine E_eqi (y := nI 95) rfl ?_
      refine E_ialdN (j := 95) dX7_restore_97 (by decide) rfl (by decide) (by decide) ?_
      refine E_eqi (y := sbu i) rfl ?_
      refine E_puti (fs2 := [.ref 39, .ref 40, .int (sbu i), .int (nI q), .ref 41, .int (nI n), .ref 42, .int fl, .int fa, .int fw, .int fr, .int rs, .int ac, .ref 43, .ref 44, .ref 45, .ref 46, .ref 47, .ref 48, .ref 49]) (L2 := [(38, .inr (7, [.ref 39, .ref 40, .int (sbu i), .int (nI q), .ref 41, .int (nI n), .ref 42, .int fl, .int fa, .int fw, .int fr, .int rs, .int ac, .ref 43, .ref 44, .ref 45, .ref 46, .ref 47, .ref 48, .ref 49])), (39, .inl (false, 22, (bkF i))), (41, .inl (false, 16, (sgF a b))), (48, .inl (false, 100, (imgF i0 (slF i a b p i1)))), (49, .inl (true, 2, (kpF k0 true)))]) dX7_restore_98 fX7_16 fpX7_2 (by decide) rfl (Nat.le_of_ble_eq_true rfl) rfl rfl ?_
      refine E_aload_n dX7_restore_101 rfl ?_
      refine E_aload_n dX7_restore_102 rfl ?_
      refine E_get dX7_restore_103 fX7_42 (by decide) rfl rfl ?_
      refine E_iload_n dX7_restore_106 rfl ?_
      refine E_bipush (v := 46) dX7_restore_107 (by decide) ?_
      refine E_iadd dX7_restore_109 ?_
      refine E_eqi (y := nI 96) rfl ?_
      refine E_ialdN (j := 96) dX7_restore_110 (by decide) rfl (by decide) (by decide) ?_
      refine E_eqi (y := nI p) rfl ?_
      refine E_puti (fs2 := [.ref 39, .ref 40, .int (sbu i), .int (nI p), .ref 41, .int (nI n), .ref 42, .int fl, .int fa, .int fw, .int fr, .int rs, .int ac, .ref 43, .ref 44, .ref 45, .ref 46, .ref 47, .ref 48, .ref 49]) (L2 := [(38, .inr (7, [.ref 39, .ref 40, .int (sbu i), .int (nI p), .ref 41, .int (nI n), .ref 42, .int fl, .int fa, .int fw, .int fr, .int rs, .int ac, .ref 43, .ref 44, .ref 45, .ref 46, .ref 47, .ref 48, .ref 49])), (39, .inl (false, 22, (bkF i))), (41, .inl (false, 16, (sgF a b))), (48, .inl (false, 100, (imgF i0 (slF i a b p i1)))), (49, .inl (true, 2, (kpF k0 true)))]) dX7_restore_111 fX7_131 fpX7_3 (by decide) rfl (Nat.le_of_ble_eq_true rfl) rfl rfl ?_
      refine E_iconst (v := 1) dX7_restore_114 (by decide) ?_
      exact E_iretf dX7_restore_115 rfl rfl rfl rfl
    · intro j hi ih
      refine E_iload_n dX7_restore_59 rfl ?_
      refine E_bipush (v := 16) dX7_restore_60 (by decide) ?_
      refine E_icmp_ge (tgt := 88) dX7_restore_62 (by decide) (fun c => absurd c (cI_nle (n := 16) rfl hi (by decide))) (fun _ => ?_)
      refine E_aload_n dX7_restore_65 rfl ?_
      refine E_get dX7_restore_66 fX7_20 (by decide) rfl rfl ?_
      refine E_iload_n dX7_restore_69 rfl ?_
      refine E_aload_n dX7_restore_70 rfl ?_
      refine E_get dX7_restore_71 fX7_42 (by decide) rfl rfl ?_
      refine E_iload_n dX7_restore_74 rfl ?_
      refine E_bipush (v := 22) dX7_restore_75 (by decide) ?_
      refine E_iadd dX7_restore_77 ?_
      refine E_eqi (y := nI 72) rfl ?_
      refine E_iload_n dX7_restore_78 rfl ?_
      refine E_iadd dX7_restore_79 ?_
      refine E_eqi (y := nI (50 + (22 + j))) ((nI_add 72 j).trans (by rw [show 72 + j = 50 + (22 + j) by omega])) ?_
      refine E_ialdN (j := 50 + (22 + j)) dX7_restore_80 (by decide) rfl (by omega) (by decide) ?_
      refine E_eqi (y := sgF a b j) ((img_g1 (k := 22 + j) (by omega)).trans (sl_s hi)) ?_
      refine E_iastN (j := j) (f2 := cpy (sgF sn sc) (sgF a b) (j + 1)) (L2 := [(38, .inr (7, [.ref 39, .ref 40, .int bu, .int (nI q), .ref 41, .int (nI n), .ref 42, .int fl, .int fa, .int fw, .int fr, .int rs, .int ac, .ref 43, .ref 44, .ref 45, .ref 46, .ref 47, .ref 48, .ref 49])), (39, .inl (false, 22, (bkF i))), (41, .inl (false, 16, (cpy (sgF sn sc) (sgF a b) (j + 1)))), (48, .inl (false, 100, (imgF i0 (slF i a b p i1)))), (49, .inl (true, 2, (kpF k0 true)))]) dX7_restore_81 (by decide) rfl (by omega) (by decide) (cpy_s _ _ _) rfl ?_
      refine E_iinc (y := nI (j + 1)) (l2 := [.ref 38, .int 1, .int (nI 50), .int (nI (j + 1))]) dX7_restore_82 rfl (nI_1 _) (by decide) rfl ?_
      refine E_goto (tgt := 59) dX7_restore_85 (by decide) ?_
      exact ih
  have L1 : ∀ j, j ≤ 22 → E YX7_restore (d + 1) 31 [.ref 38, .int 1, .int (nI 50), .int (nI j)] [] (hov hp [(38, .inr (7, [.ref 39, .ref 40, .int bu, .int (nI q), .ref 41, .int (nI n), .ref 42, .int fl, .int fa, .int fw, .int fr, .int rs, .int ac, .ref 43, .ref 44, .ref 45, .ref 46, .ref 47, .ref 48, .ref 49])), (39, .inl (false, 22, (cpy (bkF s) (bkF i) j))), (41, .inl (false, 16, (sgF sn sc))), (48, .inl (false, 100, (imgF i0 (slF i a b p i1)))), (49, .inl (true, 2, (kpF k0 true)))]) (fun v h' => v = some (.int 1) ∧ h' = hov hp [(38, .inr (7, [.ref 39, .ref 40, .int (sbu i), .int (nI p), .ref 41, .int (nI n), .ref 42, .int fl, .int fa, .int fw, .int fr, .int rs, .int ac, .ref 43, .ref 44, .ref 45, .ref 46, .ref 47, .ref 48, .ref 49])), (39, .inl (false, 22, (bkF i))), (41, .inl (false, 16, (sgF a b))), (48, .inl (false, 100, (imgF i0 (slF i a b p i1)))), (49, .inl (true, 2, (kpF k0 true)))]) := by
    refine down 22 ?_ ?_
    · refine E_iload_n dX7_restore_31 rfl ?_
      refine E_bipush (v := 22) dX7_restore_32 (by decide) ?_
      refine E_icmp_ge (tgt := 57) dX7_restore_34 (by decide) (fun _ => ?_) (fun c => absurd (by decide) c)
      refine E_iconst (v := 0) dX7_restore_57 (by decide) ?_
      rw [cpy_all (fun j hj => (bk_out hj).trans (bk_out hj).symm)]
      refine E_istore_n (l2 := [.ref 38, .int 1, .int (nI 50), .int 0]) dX7_restore_58 rfl (by decide) rfl ?_
      have e0 := L2 0 (by decide)
      rw [cpy_0] at e0
      exact e0
    · intro j hi ih
      refine E_iload_n dX7_restore_31 rfl ?_
      refine E_bipush (v := 22) dX7_restore_32 (by decide) ?_
      refine E_icmp_ge (tgt := 57) dX7_restore_34 (by decide) (fun c => absurd c (cI_nle (n := 22) rfl hi (by decide))) (fun _ => ?_)
      refine E_aload_n dX7_restore_37 rfl ?_
      refine E_get dX7_restore_38 fX7_7 (by decide) rfl rfl ?_
      refine E_iload_n dX7_restore_41 rfl ?_
      refine E_aload_n dX7_restore_42 rfl ?_
      refine E_get dX7_restore_43 fX7_42 (by decide) rfl rfl ?_
      refine E_iload_n dX7_restore_46 rfl ?_
      refine E_iload_n dX7_restore_47 rfl ?_
      refine E_iadd dX7_restore_48 ?_
      refine E_eqi (y := nI (50 + j)) (nI_add 50 _) ?_
      refine E_ialdN (j := 50 + j) dX7_restore_49 (by decide) rfl (by omega) (by decide) ?_
      refine E_eqi (y := bkF i j) ((img_g1 (k := j) (by omega)).trans (sl_b hi)) ?_
      refine E_iastN (j := j) (f2 := cpy (bkF s) (bkF i) (j + 1)) (L2 := [(38, .inr (7, [.ref 39, .ref 40, .int bu, .int (nI q), .ref 41, .int (nI n), .ref 42, .int fl, .int fa, .int fw, .int fr, .int rs, .int ac, .ref 43, .ref 44, .ref 45, .ref 46, .ref 47, .ref 48, .ref 49])), (39, .inl (false, 22, (cpy (bkF s) (bkF i) (j + 1)))), (41, .inl (false, 16, (sgF sn sc))), (48, .inl (false, 100, (imgF i0 (slF i a b p i1)))), (49, .inl (true, 2, (kpF k0 true)))]) dX7_restore_50 (by decide) rfl (by omega) (by decide) (cpy_s _ _ _) rfl ?_
      refine E_iinc (y := nI (j + 1)) (l2 := [.ref 38, .int 1, .int (nI 50), .int (nI (j + 1))]) dX7_restore_51 rfl (nI_1 _) (by decide) rfl ?_
      refine E_goto (tgt := 31) dX7_restore_54 (by decide) ?_
      exact ih
  have e0 := L1 0 (by decide)
  rw [cpy_0] at e0
  exact e0

set_option maxHeartbeats 4000000 in
set_option maxRecDepth 20000 in
theorem m_told_0 (d : Nat) (fl fa fw fr rs ac : Int32) (q n : Nat) (s : CS) : FC YX7_told (d + 2) [.ref 38, .int 0, .null] [(38, .inr (7, [.ref 39, .ref 40, .int (sbu s), .int (nI q), .ref 41, .int (nI n), .ref 42, .int fl, .int fa, .int fw, .int fr, .int rs, .int ac, .ref 43, .ref 44, .ref 45, .ref 46, .ref 47, .ref 48, .ref 49])), (39, .inl (false, 22, (bkF s)))] (some (.int (nI n))) [(38, .inr (7, [.ref 39, .ref 40, .int (sbu s), .int (nI q), .ref 41, .int (nI n), .ref 42, .int fl, .int fa, .int fw, .int fr, .int rs, .int ac, .ref 43, .ref 44, .ref 45, .ref 46, .ref 47, .ref 48, .ref 49])), (39, .inl (false, 22, (bkF s)))] := by
  intro hp
  refine E_iload_n dX7_told_0 rfl ?_
  refine E_bipush (v := 10) dX7_told_1 (by decide) ?_
  refine E_icmp_lt (tgt := 72) dX7_told_3 (by decide) (fun _ => ?_) (fun c => by first | exact absurd c (by decide) | exact absurd (by decide) c)
  refine E_iload_n dX7_told_72 rfl ?_
  refine E_tableIn (off := 39) (tgt := 112) dX7_told_73 (by decide) (by decide) (by decide) (by decide) ?_
  refine E_aload_n dX7_told_112 rfl ?_
  refine E_get dX7_told_113 fX7_60 (by decide) rfl rfl ?_
  exact E_iretf dX7_told_116 rfl rfl rfl rfl

set_option maxHeartbeats 4000000 in
set_option maxRecDepth 20000 in
theorem m_told_1 (d : Nat) (fl fa fw fr rs ac : Int32) (q n : Nat) (s : CS) : FC YX7_told (d + 2) [.ref 38, .int 1, .null] [(38, .inr (7, [.ref 39, .ref 40, .int (sbu s), .int (nI q), .ref 41, .int (nI n), .ref 42, .int fl, .int fa, .int fw, .int fr, .int rs, .int ac, .ref 43, .ref 44, .ref 45, .ref 46, .ref 47, .ref 48, .ref 49])), (39, .inl (false, 22, (bkF s)))] (some (.int (sbu s))) [(38, .inr (7, [.ref 39, .ref 40, .int (sbu s), .int (nI q), .ref 41, .int (nI n), .ref 42, .int fl, .int fa, .int fw, .int fr, .int rs, .int ac, .ref 43, .ref 44, .ref 45, .ref 46, .ref 47, .ref 48, .ref 49])), (39, .inl (false, 22, (bkF s)))] := by
  intro hp
  refine E_iload_n dX7_told_0 rfl ?_
  refine E_bipush (v := 10) dX7_told_1 (by decide) ?_
  refine E_icmp_lt (tgt := 72) dX7_told_3 (by decide) (fun _ => ?_) (fun c => by first | exact absurd c (by decide) | exact absurd (by decide) c)
  refine E_iload_n dX7_told_72 rfl ?_
  refine E_tableIn (off := 44) (tgt := 117) dX7_told_73 (by decide) (by decide) (by decide) (by decide) ?_
  refine E_aload_n dX7_told_117 rfl ?_
  refine E_get dX7_told_118 fX7_16 (by decide) rfl rfl ?_
  exact E_iretf dX7_told_121 rfl rfl rfl rfl

set_option maxHeartbeats 4000000 in
set_option maxRecDepth 20000 in
theorem m_told_2 (d : Nat) (fl fa fw fr rs ac : Int32) (q n : Nat) (s : CS) : FC YX7_told (d + 2) [.ref 38, .int 2, .null] [(38, .inr (7, [.ref 39, .ref 40, .int (sbu s), .int (nI q), .ref 41, .int (nI n), .ref 42, .int fl, .int fa, .int fw, .int fr, .int rs, .int ac, .ref 43, .ref 44, .ref 45, .ref 46, .ref 47, .ref 48, .ref 49])), (39, .inl (false, 22, (bkF s)))] (some (.int (skn s))) [(38, .inr (7, [.ref 39, .ref 40, .int (sbu s), .int (nI q), .ref 41, .int (nI n), .ref 42, .int fl, .int fa, .int fw, .int fr, .int rs, .int ac, .ref 43, .ref 44, .ref 45, .ref 46, .ref 47, .ref 48, .ref 49])), (39, .inl (false, 22, (bkF s)))] := by
  intro hp
  refine E_iload_n dX7_told_0 rfl ?_
  refine E_bipush (v := 10) dX7_told_1 (by decide) ?_
  refine E_icmp_lt (tgt := 72) dX7_told_3 (by decide) (fun _ => ?_) (fun c => by first | exact absurd c (by decide) | exact absurd (by decide) c)
  refine E_iload_n dX7_told_72 rfl ?_
  refine E_tableIn (off := 49) (tgt := 122) dX7_told_73 (by decide) (by decide) (by decide) (by decide) ?_
  refine E_aload_n dX7_told_122 rfl ?_
  refine E_get dX7_told_123 fX7_7 (by decide) rfl rfl ?_
  refine E_bipush (v := 19) dX7_told_126 (by decide) ?_
  refine E_ialdN (j := 19) dX7_told_128 (by decide) rfl (by decide) (by decide) ?_
  refine E_eqi (y := skn s) rfl ?_
  exact E_iretf dX7_told_129 rfl rfl rfl rfl

set_option maxHeartbeats 4000000 in
set_option maxRecDepth 20000 in
theorem m_told_3 (d : Nat) (fl fa fw fr rs ac : Int32) (q n : Nat) (s : CS) : FC YX7_told (d + 2) [.ref 38, .int 3, .null] [(38, .inr (7, [.ref 39, .ref 40, .int (sbu s), .int (nI q), .ref 41, .int (nI n), .ref 42, .int fl, .int fa, .int fw, .int fr, .int rs, .int ac, .ref 43, .ref 44, .ref 45, .ref 46, .ref 47, .ref 48, .ref 49])), (39, .inl (false, 22, (bkF s)))] (some (.int (sdr s))) [(38, .inr (7, [.ref 39, .ref 40, .int (sbu s), .int (nI q), .ref 41, .int (nI n), .ref 42, .int fl, .int fa, .int fw, .int fr, .int rs, .int ac, .ref 43, .ref 44, .ref 45, .ref 46, .ref 47, .ref 48, .ref 49])), (39, .inl (false, 22, (bkF s)))] := by
  intro hp
  refine E_iload_n dX7_told_0 rfl ?_
  refine E_bipush (v := 10) dX7_told_1 (by decide) ?_
  refine E_icmp_lt (tgt := 72) dX7_told_3 (by decide) (fun _ => ?_) (fun c => by first | exact absurd c (by decide) | exact absurd (by decide) c)
  refine E_iload_n dX7_told_72 rfl ?_
  refine E_tableIn (off := 57) (tgt := 130) dX7_told_73 (by decide) (by decide) (by decide) (by decide) ?_
  refine E_aload_n dX7_told_130 rfl ?_
  refine E_get dX7_told_131 fX7_7 (by decide) rfl rfl ?_
  refine E_bipush (v := 20) dX7_told_134 (by decide) ?_
  refine E_ialdN (j := 20) dX7_told_136 (by decide) rfl (by decide) (by decide) ?_
  refine E_eqi (y := sdr s) rfl ?_
  exact E_iretf dX7_told_137 rfl rfl rfl rfl

set_option maxHeartbeats 4000000 in
set_option maxRecDepth 20000 in
theorem m_told_4 (d : Nat) (fl fa fw fr rs ac : Int32) (q n : Nat) (s : CS) : FC YX7_told (d + 2) [.ref 38, .int 4, .null] [(38, .inr (7, [.ref 39, .ref 40, .int (sbu s), .int (nI q), .ref 41, .int (nI n), .ref 42, .int fl, .int fa, .int fw, .int fr, .int rs, .int ac, .ref 43, .ref 44, .ref 45, .ref 46, .ref 47, .ref 48, .ref 49])), (39, .inl (false, 22, (bkF s)))] (some (.int (swa s))) [(38, .inr (7, [.ref 39, .ref 40, .int (sbu s), .int (nI q), .ref 41, .int (nI n), .ref 42, .int fl, .int fa, .int fw, .int fr, .int rs, .int ac, .ref 43, .ref 44, .ref 45, .ref 46, .ref 47, .ref 48, .ref 49])), (39, .inl (false, 22, (bkF s)))] := by
  intro hp
  refine E_iload_n dX7_told_0 rfl ?_
  refine E_bipush (v := 10) dX7_told_1 (by decide) ?_
  refine E_icmp_lt (tgt := 72) dX7_told_3 (by decide) (fun _ => ?_) (fun c => by first | exact absurd c (by decide) | exact absurd (by decide) c)
  refine E_iload_n dX7_told_72 rfl ?_
  refine E_tableIn (off := 65) (tgt := 138) dX7_told_73 (by decide) (by decide) (by decide) (by decide) ?_
  refine E_aload_n dX7_told_138 rfl ?_
  refine E_get dX7_told_139 fX7_7 (by decide) rfl rfl ?_
  refine E_bipush (v := 18) dX7_told_142 (by decide) ?_
  refine E_ialdN (j := 18) dX7_told_144 (by decide) rfl (by decide) (by decide) ?_
  refine E_eqi (y := swa s) rfl ?_
  exact E_iretf dX7_told_145 rfl rfl rfl rfl

set_option maxHeartbeats 4000000 in
set_option maxRecDepth 20000 in
theorem m_told_5 (d : Nat) (fl fa fw fr rs ac : Int32) (q n : Nat) (s : CS) : FC YX7_told (d + 2) [.ref 38, .int 5, .null] [(38, .inr (7, [.ref 39, .ref 40, .int (sbu s), .int (nI q), .ref 41, .int (nI n), .ref 42, .int fl, .int fa, .int fw, .int fr, .int rs, .int ac, .ref 43, .ref 44, .ref 45, .ref 46, .ref 47, .ref 48, .ref 49])), (39, .inl (false, 22, (bkF s)))] (some (.int (sni s))) [(38, .inr (7, [.ref 39, .ref 40, .int (sbu s), .int (nI q), .ref 41, .int (nI n), .ref 42, .int fl, .int fa, .int fw, .int fr, .int rs, .int ac, .ref 43, .ref 44, .ref 45, .ref 46, .ref 47, .ref 48, .ref 49])), (39, .inl (false, 22, (bkF s)))] := by
  intro hp
  refine E_iload_n dX7_told_0 rfl ?_
  refine E_bipush (v := 10) dX7_told_1 (by decide) ?_
  refine E_icmp_lt (tgt := 72) dX7_told_3 (by decide) (fun _ => ?_) (fun c => by first | exact absurd c (by decide) | exact absurd (by decide) c)
  refine E_iload_n dX7_told_72 rfl ?_
  refine E_tableIn (off := 73) (tgt := 146) dX7_told_73 (by decide) (by decide) (by decide) (by decide) ?_
  refine E_aload_n dX7_told_146 rfl ?_
  refine E_get dX7_told_147 fX7_7 (by decide) rfl rfl ?_
  refine E_bipush (v := 21) dX7_told_150 (by decide) ?_
  refine E_ialdN (j := 21) dX7_told_152 (by decide) rfl (by decide) (by decide) ?_
  refine E_eqi (y := sni s) rfl ?_
  exact E_iretf dX7_told_153 rfl rfl rfl rfl

set_option maxHeartbeats 4000000 in
set_option maxRecDepth 20000 in
theorem m_told_6 (d : Nat) (fl fa fw fr rs ac : Int32) (q n : Nat) (s : CS) : FC YX7_told (d + 2) [.ref 38, .int 6, .null] [(38, .inr (7, [.ref 39, .ref 40, .int (sbu s), .int (nI q), .ref 41, .int (nI n), .ref 42, .int fl, .int fa, .int fw, .int fr, .int rs, .int ac, .ref 43, .ref 44, .ref 45, .ref 46, .ref 47, .ref 48, .ref 49])), (39, .inl (false, 22, (bkF s)))] (some (.int (nI q))) [(38, .inr (7, [.ref 39, .ref 40, .int (sbu s), .int (nI q), .ref 41, .int (nI n), .ref 42, .int fl, .int fa, .int fw, .int fr, .int rs, .int ac, .ref 43, .ref 44, .ref 45, .ref 46, .ref 47, .ref 48, .ref 49])), (39, .inl (false, 22, (bkF s)))] := by
  intro hp
  refine E_iload_n dX7_told_0 rfl ?_
  refine E_bipush (v := 10) dX7_told_1 (by decide) ?_
  refine E_icmp_lt (tgt := 72) dX7_told_3 (by decide) (fun _ => ?_) (fun c => by first | exact absurd c (by decide) | exact absurd (by decide) c)
  refine E_iload_n dX7_told_72 rfl ?_
  refine E_tableOut (tgt := 154) dX7_told_73 (by decide) (by decide) ?_
  refine E_iload_n dX7_told_154 rfl ?_
  refine E_bipush (v := 6) dX7_told_155 (by decide) ?_
  refine E_icmp_ne (tgt := 167) dX7_told_157 (by decide) (fun c => by first | exact absurd c (by decide) | exact absurd (by decide) c) (fun _ => ?_)
  refine E_aload_n dX7_told_160 rfl ?_
  refine E_get dX7_told_161 fX7_131 (by decide) rfl rfl ?_
  refine E_goto (tgt := 169) dX7_told_164 (by decide) ?_
  exact E_iretf dX7_told_169 rfl rfl rfl rfl

set_option maxHeartbeats 4000000 in
set_option maxRecDepth 20000 in
theorem m_told_oA (d : Nat) (bu fl fa fw fr rs ac : Int32) (q n : Nat) (x : Int32) (h : ¬ 10 ≤ x) (hx : x.toInt < 0 ∨ 6 < x.toInt) : FC YX7_told (d + 2) [.ref 38, .int x, .null] [(38, .inr (7, [.ref 39, .ref 40, .int bu, .int (nI q), .ref 41, .int (nI n), .ref 42, .int fl, .int fa, .int fw, .int fr, .int rs, .int ac, .ref 43, .ref 44, .ref 45, .ref 46, .ref 47, .ref 48, .ref 49]))] (some (.int (-2))) [(38, .inr (7, [.ref 39, .ref 40, .int bu, .int (nI q), .ref 41, .int (nI n), .ref 42, .int fl, .int fa, .int fw, .int fr, .int rs, .int ac, .ref 43, .ref 44, .ref 45, .ref 46, .ref 47, .ref 48, .ref 49]))] := by
  intro hp
  refine E_iload_n dX7_told_0 rfl ?_
  refine E_bipush (v := 10) dX7_told_1 (by decide) ?_
  refine E_icmp_lt (tgt := 72) dX7_told_3 (by decide) (fun _ => ?_) (fun c => absurd (Int32.not_le.mp h) c)
  refine E_iload_n dX7_told_72 rfl ?_
  refine E_tableOut (tgt := 154) dX7_told_73 (by omega) (by decide) ?_
  refine E_iload_n dX7_told_154 rfl ?_
  refine E_bipush (v := 6) dX7_told_155 (by decide) ?_
  refine E_icmp_ne (tgt := 167) dX7_told_157 (by decide) (fun _ => ?_) (fun c => absurd c (fun e => by rw [e] at hx; revert hx; decide))
  refine E_bipush (v := (-2)) dX7_told_167 (by decide) ?_
  exact E_iretf dX7_told_169 rfl rfl rfl rfl

set_option maxHeartbeats 4000000 in
set_option maxRecDepth 20000 in
theorem m_told_h1 (d : Nat) (fl fa fw fr rs ac : Int32) (q n : Nat) (s : CS) (h : Nat) (hh : h < 6) (hv : inI (nI h) 0 5 = true) : FC YX7_told (d + 2) [.ref 38, .int (nI (10 + h)), .null] [(38, .inr (7, [.ref 39, .ref 40, .int (sbu s), .int (nI q), .ref 41, .int (nI n), .ref 42, .int fl, .int fa, .int fw, .int fr, .int rs, .int ac, .ref 43, .ref 44, .ref 45, .ref 46, .ref 47, .ref 48, .ref 49])), (39, .inl (false, 22, (bkF s)))] (some (.int (sce s h))) [(38, .inr (7, [.ref 39, .ref 40, .int (sbu s), .int (nI q), .ref 41, .int (nI n), .ref 42, .int fl, .int fa, .int fw, .int fr, .int rs, .int ac, .ref 43, .ref 44, .ref 45, .ref 46, .ref 47, .ref 48, .ref 49])), (39, .inl (false, 22, (bkF s)))] := by
  intro hp
  refine E_iload_n dX7_told_0 rfl ?_
  refine E_bipush (v := 10) dX7_told_1 (by decide) ?_
  refine E_icmp_lt (tgt := 72) dX7_told_3 (by decide) (fun c => absurd c (Int32.not_lt.mpr (cI_le (n := 10) rfl (by omega) (by omega)))) (fun _ => ?_)
  refine E_iload_n dX7_told_6 rfl ?_
  refine E_bipush (v := 10) dX7_told_7 (by decide) ?_
  refine E_irem dX7_told_9 (by decide) ?_
  refine E_eqi (y := nI h) (by have e := pk_rem (a := 10 + h) (d := 10) (by omega) (by decide) (by decide); rw [show (10 + h) % 10 = h by omega] at e; exact e) ?_
  refine E_istore_n (l2 := [.ref 38, .int (nI (10 + h)), .int (nI h)]) dX7_told_10 rfl (by decide) rfl ?_
  refine E_iload_n dX7_told_11 rfl ?_
  refine E_bipush (v := 39) dX7_told_12 (by decide) ?_
  refine E_icmp_gt (tgt := 24) dX7_told_14 (by decide) (fun c => absurd c (Int32.not_lt.mpr (cJ_le (n := 39) rfl (by omega) (by decide)))) (fun _ => ?_)
  refine E_iload_n dX7_told_17 rfl ?_
  refine E_callS (As := [.int (nI h)]) (l' := [.int (nI h)]) (st := []) dX7_told_18 kX7_52 sX7_isHeap MX7_isHeap rfl rfl (Nat.le_of_ble_eq_true rfl) (FC.use (c_isHM d _) rfl (L2 := [(38, .inr (7, [.ref 39, .ref 40, .int (sbu s), .int (nI q), .ref 41, .int (nI n), .ref 42, .int fl, .int fa, .int fw, .int fr, .int rs, .int ac, .ref 43, .ref 44, .ref 45, .ref 46, .ref 47, .ref 48, .ref 49])), (39, .inl (false, 22, (bkF s)))]) rfl) (Nat.le_of_ble_eq_true rfl) (fun _ _ hq9 => E_fgo ?_ hq9)
  show E _ _ 21 [.ref 38, .int (nI (10 + h)), .int (nI h)] [.int (b2i (inI (nI h) 0 5))] (hov hp [(38, .inr (7, [.ref 39, .ref 40, .int (sbu s), .int (nI q), .ref 41, .int (nI n), .ref 42, .int fl, .int fa, .int fw, .int fr, .int rs, .int ac, .ref 43, .ref 44, .ref 45, .ref 46, .ref 47, .ref 48, .ref 49])), (39, .inl (false, 22, (bkF s)))]) _
  refine E_if_ne (tgt := 29) dX7_told_21 (by decide) (fun _ => ?_) (fun c => (b2i_x1 hv c).elim)
  refine E_iload_n dX7_told_29 rfl ?_
  refine E_bipush (v := 20) dX7_told_30 (by decide) ?_
  refine E_icmp_ge (tgt := 47) dX7_told_32 (by decide) (fun c => absurd c (cI_nle (n := 20) rfl (by omega) (by decide))) (fun _ => ?_)
  refine E_aload_n dX7_told_35 rfl ?_
  refine E_get dX7_told_36 fX7_7 (by decide) rfl rfl ?_
  refine E_bipush (v := 12) dX7_told_39 (by decide) ?_
  refine E_iload_n dX7_told_41 rfl ?_
  refine E_iadd dX7_told_42 ?_
  refine E_eqi (y := nI (12 + h)) (nI_add 12 _) ?_
  refine E_ialdN (j := 12 + h) dX7_told_43 (by decide) rfl (by omega) (by decide) ?_
  refine E_eqi (y := sce s h) (bk_c hh) ?_
  refine E_goto (tgt := 71) dX7_told_44 (by decide) ?_
  exact E_iretf dX7_told_71 rfl rfl rfl rfl

set_option maxHeartbeats 4000000 in
set_option maxRecDepth 20000 in
theorem m_told_h2 (d : Nat) (fl fa fw fr rs ac : Int32) (q n : Nat) (s : CS) (h : Nat) (hh : h < 6) (hv : inI (nI h) 0 5 = true) : FC YX7_told (d + 2) [.ref 38, .int (nI (20 + h)), .null] [(38, .inr (7, [.ref 39, .ref 40, .int (sbu s), .int (nI q), .ref 41, .int (nI n), .ref 42, .int fl, .int fa, .int fw, .int fr, .int rs, .int ac, .ref 43, .ref 44, .ref 45, .ref 46, .ref 47, .ref 48, .ref 49])), (39, .inl (false, 22, (bkF s)))] (some (.int (she s h))) [(38, .inr (7, [.ref 39, .ref 40, .int (sbu s), .int (nI q), .ref 41, .int (nI n), .ref 42, .int fl, .int fa, .int fw, .int fr, .int rs, .int ac, .ref 43, .ref 44, .ref 45, .ref 46, .ref 47, .ref 48, .ref 49])), (39, .inl (false, 22, (bkF s)))] := by
  intro hp
  refine E_iload_n dX7_told_0 rfl ?_
  refine E_bipush (v := 10) dX7_told_1 (by decide) ?_
  refine E_icmp_lt (tgt := 72) dX7_told_3 (by decide) (fun c => absurd c (Int32.not_lt.mpr (cI_le (n := 10) rfl (by omega) (by omega)))) (fun _ => ?_)
  refine E_iload_n dX7_told_6 rfl ?_
  refine E_bipush (v := 10) dX7_told_7 (by decide) ?_
  refine E_irem dX7_told_9 (by decide) ?_
  refine E_eqi (y := nI h) (by have e := pk_rem (a := 20 + h) (d := 10) (by omega) (by decide) (by decide); rw [show (20 + h) % 10 = h by omega] at e; exact e) ?_
  refine E_istore_n (l2 := [.ref 38, .int (nI (20 + h)), .int (nI h)]) dX7_told_10 rfl (by decide) rfl ?_
  refine E_iload_n dX7_told_11 rfl ?_
  refine E_bipush (v := 39) dX7_told_12 (by decide) ?_
  refine E_icmp_gt (tgt := 24) dX7_told_14 (by decide) (fun c => absurd c (Int32.not_lt.mpr (cJ_le (n := 39) rfl (by omega) (by decide)))) (fun _ => ?_)
  refine E_iload_n dX7_told_17 rfl ?_
  refine E_callS (As := [.int (nI h)]) (l' := [.int (nI h)]) (st := []) dX7_told_18 kX7_52 sX7_isHeap MX7_isHeap rfl rfl (Nat.le_of_ble_eq_true rfl) (FC.use (c_isHM d _) rfl (L2 := [(38, .inr (7, [.ref 39, .ref 40, .int (sbu s), .int (nI q), .ref 41, .int (nI n), .ref 42, .int fl, .int fa, .int fw, .int fr, .int rs, .int ac, .ref 43, .ref 44, .ref 45, .ref 46, .ref 47, .ref 48, .ref 49])), (39, .inl (false, 22, (bkF s)))]) rfl) (Nat.le_of_ble_eq_true rfl) (fun _ _ hq9 => E_fgo ?_ hq9)
  show E _ _ 21 [.ref 38, .int (nI (20 + h)), .int (nI h)] [.int (b2i (inI (nI h) 0 5))] (hov hp [(38, .inr (7, [.ref 39, .ref 40, .int (sbu s), .int (nI q), .ref 41, .int (nI n), .ref 42, .int fl, .int fa, .int fw, .int fr, .int rs, .int ac, .ref 43, .ref 44, .ref 45, .ref 46, .ref 47, .ref 48, .ref 49])), (39, .inl (false, 22, (bkF s)))]) _
  refine E_if_ne (tgt := 29) dX7_told_21 (by decide) (fun _ => ?_) (fun c => (b2i_x1 hv c).elim)
  refine E_iload_n dX7_told_29 rfl ?_
  refine E_bipush (v := 20) dX7_told_30 (by decide) ?_
  refine E_icmp_ge (tgt := 47) dX7_told_32 (by decide) (fun _ => ?_) (fun c => absurd (cI_le (n := 20) rfl (by omega) (by omega)) c)
  refine E_iload_n dX7_told_47 rfl ?_
  refine E_bipush (v := 30) dX7_told_48 (by decide) ?_
  refine E_icmp_ge (tgt := 62) dX7_told_50 (by decide) (fun c => absurd c (cI_nle (n := 30) rfl (by omega) (by decide))) (fun _ => ?_)
  refine E_aload_n dX7_told_53 rfl ?_
  refine E_get dX7_told_54 fX7_7 (by decide) rfl rfl ?_
  refine E_iload_n dX7_told_57 rfl ?_
  refine E_ialdN (j := h) dX7_told_58 (by decide) rfl (by omega) (by decide) ?_
  refine E_eqi (y := she s h) (bk_h hh) ?_
  refine E_goto (tgt := 71) dX7_told_59 (by decide) ?_
  exact E_iretf dX7_told_71 rfl rfl rfl rfl

set_option maxHeartbeats 4000000 in
set_option maxRecDepth 20000 in
theorem m_told_h3 (d : Nat) (fl fa fw fr rs ac : Int32) (q n : Nat) (s : CS) (h : Nat) (hh : h < 6) (hv : inI (nI h) 0 5 = true) : FC YX7_told (d + 2) [.ref 38, .int (nI (30 + h)), .null] [(38, .inr (7, [.ref 39, .ref 40, .int (sbu s), .int (nI q), .ref 41, .int (nI n), .ref 42, .int fl, .int fa, .int fw, .int fr, .int rs, .int ac, .ref 43, .ref 44, .ref 45, .ref 46, .ref 47, .ref 48, .ref 49])), (39, .inl (false, 22, (bkF s)))] (some (.int (stu s h))) [(38, .inr (7, [.ref 39, .ref 40, .int (sbu s), .int (nI q), .ref 41, .int (nI n), .ref 42, .int fl, .int fa, .int fw, .int fr, .int rs, .int ac, .ref 43, .ref 44, .ref 45, .ref 46, .ref 47, .ref 48, .ref 49])), (39, .inl (false, 22, (bkF s)))] := by
  intro hp
  refine E_iload_n dX7_told_0 rfl ?_
  refine E_bipush (v := 10) dX7_told_1 (by decide) ?_
  refine E_icmp_lt (tgt := 72) dX7_told_3 (by decide) (fun c => absurd c (Int32.not_lt.mpr (cI_le (n := 10) rfl (by omega) (by omega)))) (fun _ => ?_)
  refine E_iload_n dX7_told_6 rfl ?_
  refine E_bipush (v := 10) dX7_told_7 (by decide) ?_
  refine E_irem dX7_told_9 (by decide) ?_
  refine E_eqi (y := nI h) (by have e := pk_rem (a := 30 + h) (d := 10) (by omega) (by decide) (by decide); rw [show (30 + h) % 10 = h by omega] at e; exact e) ?_
  refine E_istore_n (l2 := [.ref 38, .int (nI (30 + h)), .int (nI h)]) dX7_told_10 rfl (by decide) rfl ?_
  refine E_iload_n dX7_told_11 rfl ?_
  refine E_bipush (v := 39) dX7_told_12 (by decide) ?_
  refine E_icmp_gt (tgt := 24) dX7_told_14 (by decide) (fun c => absurd c (Int32.not_lt.mpr (cJ_le (n := 39) rfl (by omega) (by decide)))) (fun _ => ?_)
  refine E_iload_n dX7_told_17 rfl ?_
  refine E_callS (As := [.int (nI h)]) (l' := [.int (nI h)]) (st := []) dX7_told_18 kX7_52 sX7_isHeap MX7_isHeap rfl rfl (Nat.le_of_ble_eq_true rfl) (FC.use (c_isHM d _) rfl (L2 := [(38, .inr (7, [.ref 39, .ref 40, .int (sbu s), .int (nI q), .ref 41, .int (nI n), .ref 42, .int fl, .int fa, .int fw, .int fr, .int rs, .int ac, .ref 43, .ref 44, .ref 45, .ref 46, .ref 47, .ref 48, .ref 49])), (39, .inl (false, 22, (bkF s)))]) rfl) (Nat.le_of_ble_eq_true rfl) (fun _ _ hq9 => E_fgo ?_ hq9)
  show E _ _ 21 [.ref 38, .int (nI (30 + h)), .int (nI h)] [.int (b2i (inI (nI h) 0 5))] (hov hp [(38, .inr (7, [.ref 39, .ref 40, .int (sbu s), .int (nI q), .ref 41, .int (nI n), .ref 42, .int fl, .int fa, .int fw, .int fr, .int rs, .int ac, .ref 43, .ref 44, .ref 45, .ref 46, .ref 47, .ref 48, .ref 49])), (39, .inl (false, 22, (bkF s)))]) _
  refine E_if_ne (tgt := 29) dX7_told_21 (by decide) (fun _ => ?_) (fun c => (b2i_x1 hv c).elim)
  refine E_iload_n dX7_told_29 rfl ?_
  refine E_bipush (v := 20) dX7_told_30 (by decide) ?_
  refine E_icmp_ge (tgt := 47) dX7_told_32 (by decide) (fun _ => ?_) (fun c => absurd (cI_le (n := 20) rfl (by omega) (by omega)) c)
  refine E_iload_n dX7_told_47 rfl ?_
  refine E_bipush (v := 30) dX7_told_48 (by decide) ?_
  refine E_icmp_ge (tgt := 62) dX7_told_50 (by decide) (fun _ => ?_) (fun c => absurd (cI_le (n := 30) rfl (by omega) (by omega)) c)
  refine E_aload_n dX7_told_62 rfl ?_
  refine E_get dX7_told_63 fX7_7 (by decide) rfl rfl ?_
  refine E_bipush (v := 6) dX7_told_66 (by decide) ?_
  refine E_iload_n dX7_told_68 rfl ?_
  refine E_iadd dX7_told_69 ?_
  refine E_eqi (y := nI (6 + h)) (nI_add 6 _) ?_
  refine E_ialdN (j := 6 + h) dX7_told_70 (by decide) rfl (by omega) (by decide) ?_
  refine E_eqi (y := stu s h) (bk_t hh) ?_
  exact E_iretf dX7_told_71 rfl rfl rfl rfl

set_option maxHeartbeats 4000000 in
set_option maxRecDepth 20000 in
theorem m_told_oB (d : Nat) (bu fl fa fw fr rs ac : Int32) (q n : Nat) (x : Int32) (h : 10 ≤ x) (hv : inI (rmI x 10) 0 5 = false) : FC YX7_told (d + 2) [.ref 38, .int x, .null] [(38, .inr (7, [.ref 39, .ref 40, .int bu, .int (nI q), .ref 41, .int (nI n), .ref 42, .int fl, .int fa, .int fw, .int fr, .int rs, .int ac, .ref 43, .ref 44, .ref 45, .ref 46, .ref 47, .ref 48, .ref 49]))] (some (.int (-2))) [(38, .inr (7, [.ref 39, .ref 40, .int bu, .int (nI q), .ref 41, .int (nI n), .ref 42, .int fl, .int fa, .int fw, .int fr, .int rs, .int ac, .ref 43, .ref 44, .ref 45, .ref 46, .ref 47, .ref 48, .ref 49]))] := by
  intro hp
  refine E_iload_n dX7_told_0 rfl ?_
  refine E_bipush (v := 10) dX7_told_1 (by decide) ?_
  refine E_icmp_lt (tgt := 72) dX7_told_3 (by decide) (fun c => absurd c (Int32.not_lt.mpr h)) (fun _ => ?_)
  refine E_iload_n dX7_told_6 rfl ?_
  refine E_bipush (v := 10) dX7_told_7 (by decide) ?_
  refine E_irem dX7_told_9 (by decide) ?_
  refine E_istore_n (l2 := [.ref 38, .int x, .int (rmI x 10)]) dX7_told_10 rfl (by decide) rfl ?_
  refine E_iload_n dX7_told_11 rfl ?_
  refine E_bipush (v := 39) dX7_told_12 (by decide) ?_
  refine E_icmp_gt (tgt := 24) dX7_told_14 (by decide) (fun c14 => ?_) (fun c14 => ?_)
  · refine E_bipush (v := (-2)) dX7_told_24 (by decide) ?_
    refine E_goto (tgt := 71) dX7_told_26 (by decide) ?_
    exact E_iretf dX7_told_71 rfl rfl rfl rfl
  · refine E_iload_n dX7_told_17 rfl ?_
    refine E_callS (As := [.int (rmI x 10)]) (l' := [.int (rmI x 10)]) (st := []) dX7_told_18 kX7_52 sX7_isHeap MX7_isHeap rfl rfl (Nat.le_of_ble_eq_true rfl) (FC.use (c_isHM d _) rfl (L2 := [(38, .inr (7, [.ref 39, .ref 40, .int bu, .int (nI q), .ref 41, .int (nI n), .ref 42, .int fl, .int fa, .int fw, .int fr, .int rs, .int ac, .ref 43, .ref 44, .ref 45, .ref 46, .ref 47, .ref 48, .ref 49]))]) rfl) (Nat.le_of_ble_eq_true rfl) (fun _ _ hq9 => E_fgo ?_ hq9)
    show E _ _ 21 [.ref 38, .int x, .int (rmI x 10)] [.int (b2i (inI (rmI x 10) 0 5))] (hov hp [(38, .inr (7, [.ref 39, .ref 40, .int bu, .int (nI q), .ref 41, .int (nI n), .ref 42, .int fl, .int fa, .int fw, .int fr, .int rs, .int ac, .ref 43, .ref 44, .ref 45, .ref 46, .ref 47, .ref 48, .ref 49]))]) _
    refine E_if_ne (tgt := 29) dX7_told_21 (by decide) (fun c => (b2i_x0 hv c).elim) (fun _ => ?_)
    refine E_bipush (v := (-2)) dX7_told_24 (by decide) ?_
    refine E_goto (tgt := 71) dX7_told_26 (by decide) ?_
    exact E_iretf dX7_told_71 rfl rfl rfl rfl

set_option maxHeartbeats 4000000 in
set_option maxRecDepth 20000 in
theorem m_told_oC (d : Nat) (bu fl fa fw fr rs ac : Int32) (q n : Nat) (x : Int32) (h : 10 ≤ x) (hx : 39 < x) : FC YX7_told (d + 2) [.ref 38, .int x, .null] [(38, .inr (7, [.ref 39, .ref 40, .int bu, .int (nI q), .ref 41, .int (nI n), .ref 42, .int fl, .int fa, .int fw, .int fr, .int rs, .int ac, .ref 43, .ref 44, .ref 45, .ref 46, .ref 47, .ref 48, .ref 49]))] (some (.int (-2))) [(38, .inr (7, [.ref 39, .ref 40, .int bu, .int (nI q), .ref 41, .int (nI n), .ref 42, .int fl, .int fa, .int fw, .int fr, .int rs, .int ac, .ref 43, .ref 44, .ref 45, .ref 46, .ref 47, .ref 48, .ref 49]))] := by
  intro hp
  refine E_iload_n dX7_told_0 rfl ?_
  refine E_bipush (v := 10) dX7_told_1 (by decide) ?_
  refine E_icmp_lt (tgt := 72) dX7_told_3 (by decide) (fun c => absurd c (Int32.not_lt.mpr h)) (fun _ => ?_)
  refine E_iload_n dX7_told_6 rfl ?_
  refine E_bipush (v := 10) dX7_told_7 (by decide) ?_
  refine E_irem dX7_told_9 (by decide) ?_
  refine E_istore_n (l2 := [.ref 38, .int x, .int (rmI x 10)]) dX7_told_10 rfl (by decide) rfl ?_
  refine E_iload_n dX7_told_11 rfl ?_
  refine E_bipush (v := 39) dX7_told_12 (by decide) ?_
  refine E_icmp_gt (tgt := 24) dX7_told_14 (by decide) (fun _ => ?_) (fun c => absurd hx c)
  refine E_bipush (v := (-2)) dX7_told_24 (by decide) ?_
  refine E_goto (tgt := 71) dX7_told_26 (by decide) ?_
  exact E_iretf dX7_told_71 rfl rfl rfl rfl
