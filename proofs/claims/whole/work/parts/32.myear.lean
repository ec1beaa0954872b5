/-! a year, the reference's way -/
theorem yN_x (s : CS) (y : Nat) : yN s y = nxS s (yK y) (y % 6) (nI (y / 48 % 25)) := rfl
theorem yK_5 (y : Nat) : yK y ≤ 5 := by unfold yK; split <;> omega
theorem yN_ok {s : CS} (hs : OkS s) (y : Nat) : OkS (yN s y) := by
  rw [yN_x]
  exact nxS_ok hs (by omega) (yK_5 y) (fun _ => ⟨y / 48 % 25, by omega, rfl⟩)
theorem yN_bu (s : CS) (y : Nat) : sbu (yN s y) = sbu s := by
  rw [yN]
  by_cases h : rsn s (yK y) (y % 6) (nI (y / 48 % 25)) = 0
  · rw [if_pos h]; exact prS_bu _ _ _ _
  · rw [if_neg h]
theorem yr_ok {s : CS} (hs : OkS s) (x : Nat) : ∀ i, OkS (yr s x i).1 ∧ sbu (yr s x i).1 = sbu s
  | 0 => ⟨hs, rfl⟩
  | i + 1 => by
    have h := yr_ok hs x i
    exact ⟨yN_ok h.1 _, (yN_bu _ _).trans h.2⟩
theorem n99_e {z : CS} (hz : OkS z) (h : ¬ sni z < 99) : sni z = 99 := by
  obtain ⟨k, hk, e⟩ := hz.2.2.2.2.2.2.2.1
  rw [e] at h ⊢
  by_cases e2 : k = 99
  · subst e2; rfl
  · exact absurd (nI_lt (b := 99) (by omega) (by decide)) h

set_option maxHeartbeats 4000000 in
set_option maxRecDepth 20000 in
theorem m_year_o0 (d : Nat) (bu fl fa fw fr rs ac : Int32) (q n : Nat) (x m v : Int32) (h0 : inI x 0 9999 = false) : FC YX7_year (d + 4) [.ref 38, .int x, .int m, .int v, .null, .null, .null] [(38, .inr (7, [.ref 39, .ref 40, .int bu, .int (nI q), .ref 41, .int (nI n), .ref 42, .int fl, .int fa, .int fw, .int fr, .int rs, .int ac, .ref 43, .ref 44, .ref 45, .ref 46, .ref 47, .ref 48, .ref 49]))] (some (.int (-2))) [(38, .inr (7, [.ref 39, .ref 40, .int bu, .int (nI q), .ref 41, .int (nI n), .ref 42, .int fl, .int fa, .int fw, .int fr, .int rs, .int ac, .ref 43, .ref 44, .ref 45, .ref 46, .ref 47, .ref 48, .ref 49]))] := by
  intro hp
  refine E_iload_n dX7_year_0 rfl ?_
  refine E_iconst (v := 0) dX7_year_1 (by decide) ?_
  refine E_sipush (v := 9999) dX7_year_2 (by decide) ?_
  refine E_callS (As := [.int x, .int 0, .int 9999]) (l' := [.int x, .int 0, .int 9999]) (st := []) dX7_year_5 kX7_48 sX7_in MX7_in rfl rfl (Nat.le_of_ble_eq_true rfl) (FC.use (c_in (d + 3) _ _ _) rfl (L2 := [(38, .inr (7, [.ref 39, .ref 40, .int bu, .int (nI q), .ref 41, .int (nI n), .ref 42, .int fl, .int fa, .int fw, .int fr, .int rs, .int ac, .ref 43, .ref 44, .ref 45, .ref 46, .ref 47, .ref 48, .ref 49]))]) rfl) (Nat.le_of_ble_eq_true rfl) (fun _ _ hq9 => E_fgo ?_ hq9)
  show E _ _ 8 [.ref 38, .int x, .int m, .int v, .null, .null, .null] [.int (b2i (inI x 0 9999))] (hov hp [(38, .inr (7, [.ref 39, .ref 40, .int bu, .int (nI q), .ref 41, .int (nI n), .ref 42, .int fl, .int fa, .int fw, .int fr, .int rs, .int ac, .ref 43, .ref 44, .ref 45, .ref 46, .ref 47, .ref 48, .ref 49]))]) _
  refine E_if_eq (tgt := 30) dX7_year_8 (by decide) (fun _ => ?_) (fun c => (b2i_x0 h0 c).elim)
  refine E_bipush (v := (-2)) dX7_year_30 (by decide) ?_
  exact E_iretf dX7_year_32 rfl rfl rfl rfl

set_option maxHeartbeats 4000000 in
set_option maxRecDepth 20000 in
theorem m_year_o1 (d : Nat) (bu fl fa fw fr rs ac : Int32) (q n : Nat) (x m v : Int32) (h0 : inI x 0 9999 = true) (h1 : inI m 1 99 = false) : FC YX7_year (d + 4) [.ref 38, .int x, .int m, .int v, .null, .null, .null] [(38, .inr (7, [.ref 39, .ref 40, .int bu, .int (nI q), .ref 41, .int (nI n), .ref 42, .int fl, .int fa, .int fw, .int fr, .int rs, .int ac, .ref 43, .ref 44, .ref 45, .ref 46, .ref 47, .ref 48, .ref 49]))] (some (.int (-2))) [(38, .inr (7, [.ref 39, .ref 40, .int bu, .int (nI q), .ref 41, .int (nI n), .ref 42, .int fl, .int fa, .int fw, .int fr, .int rs, .int ac, .ref 43, .ref 44, .ref 45, .ref 46, .ref 47, .ref 48, .ref 49]))] := by
  intro hp
  refine E_iload_n dX7_year_0 rfl ?_
  refine E_iconst (v := 0) dX7_year_1 (by decide) ?_
  refine E_sipush (v := 9999) dX7_year_2 (by decide) ?_
  refine E_callS (As := [.int x, .int 0, .int 9999]) (l' := [.int x, .int 0, .int 9999]) (st := []) dX7_year_5 kX7_48 sX7_in MX7_in rfl rfl (Nat.le_of_ble_eq_true rfl) (FC.use (c_in (d + 3) _ _ _) rfl (L2 := [(38, .inr (7, [.ref 39, .ref 40, .int bu, .int (nI q), .ref 41, .int (nI n), .ref 42, .int fl, .int fa, .int fw, .int fr, .int rs, .int ac, .ref 43, .ref 44, .ref 45, .ref 46, .ref 47, .ref 48, .ref 49]))]) rfl) (Nat.le_of_ble_eq_true rfl) (fun _ _ hq9 => E_fgo ?_ hq9)
  show E _ _ 8 [.ref 38, .int x, .int m, .int v, .null, .null, .null] [.int (b2i (inI x 0 9999))] (hov hp [(38, .inr (7, [.ref 39, .ref 40, .int bu, .int (nI q), .ref 41, .int (nI n), .ref 42, .int fl, .int fa, .int fw, .int fr, .int rs, .int ac, .ref 43, .ref 44, .ref 45, .ref 46, .ref 47, .ref 48, .ref 49]))]) _
  refine E_if_eq (tgt := 30) dX7_year_8 (by decide) (fun c => (b2i_x1 h0 c).elim) (fun _ => ?_)
  refine E_iload_n dX7_year_11 rfl ?_
  refine E_iconst (v := 1) dX7_year_12 (by decide) ?_
  refine E_bipush (v := 99) dX7_year_13 (by decide) ?_
  refine E_callS (As := [.int m, .int 1, .int 99]) (l' := [.int m, .int 1, .int 99]) (st := []) dX7_year_15 kX7_48 sX7_in MX7_in rfl rfl (Nat.le_of_ble_eq_true rfl) (FC.use (c_in (d + 3) _ _ _) rfl (L2 := [(38, .inr (7, [.ref 39, .ref 40, .int bu, .int (nI q), .ref 41, .int (nI n), .ref 42, .int fl, .int fa, .int fw, .int fr, .int rs, .int ac, .ref 43, .ref 44, .ref 45, .ref 46, .ref 47, .ref 48, .ref 49]))]) rfl) (Nat.le_of_ble_eq_true rfl) (fun _ _ hq9 => E_fgo ?_ hq9)
  show E _ _ 18 [.ref 38, .int x, .int m, .int v, .null, .null, .null] [.int (b2i (inI m 1 99))] (hov hp [(38, .inr (7, [.ref 39, .ref 40, .int bu, .int (nI q), .ref 41, .int (nI n), .ref 42, .int fl, .int fa, .int fw, .int fr, .int rs, .int ac, .ref 43, .ref 44, .ref 45, .ref 46, .ref 47, .ref 48, .ref 49]))]) _
  refine E_if_eq (tgt := 30) dX7_year_18 (by decide) (fun _ => ?_) (fun c => (b2i_x0 h1 c).elim)
  refine E_bipush (v := (-2)) dX7_year_30 (by decide) ?_
  exact E_iretf dX7_year_32 rfl rfl rfl rfl

set_option maxHeartbeats 4000000 in
set_option maxRecDepth 20000 in
theorem m_year_o2 (d : Nat) (bu fl fa fw fr rs ac : Int32) (q n : Nat) (x m v : Int32) (h0 : inI x 0 9999 = true) (h1 : inI m 1 99 = true) (h2 : inI v 0 2 = false) : FC YX7_year (d + 4) [.ref 38, .int x, .int m, .int v, .null, .null, .null] [(38, .inr (7, [.ref 39, .ref 40, .int bu, .int (nI q), .ref 41, .int (nI n), .ref 42, .int fl, .int fa, .int fw, .int fr, .int rs, .int ac, .ref 43, .ref 44, .ref 45, .ref 46, .ref 47, .ref 48, .ref 49]))] (some (.int (-2))) [(38, .inr (7, [.ref 39, .ref 40, .int bu, .int (nI q), .ref 41, .int (nI n), .ref 42, .int fl, .int fa, .int fw, .int fr, .int rs, .int ac, .ref 43, .ref 44, .ref 45, .ref 46, .ref 47, .ref 48, .ref 49]))] := by
  intro hp
  refine E_iload_n dX7_year_0 rfl ?_
  refine E_iconst (v := 0) dX7_year_1 (by decide) ?_
  refine E_sipush (v := 9999) dX7_year_2 (by decide) ?_
  refine E_callS (As := [.int x, .int 0, .int 9999]) (l' := [.int x, .int 0, .int 9999]) (st := []) dX7_year_5 kX7_48 sX7_in MX7_in rfl rfl (Nat.le_of_ble_eq_true rfl) (FC.use (c_in (d + 3) _ _ _) rfl (L2 := [(38, .inr (7, [.ref 39, .ref 40, .int bu, .int (nI q), .ref 41, .int (nI n), .ref 42, .int fl, .int fa, .int fw, .int fr, .int rs, .int ac, .ref 43, .ref 44, .ref 45, .ref 46, .ref 47, .ref 48, .ref 49]))]) rfl) (Nat.le_of_ble_eq_true rfl) (fun _ _ hq9 => E_fgo ?_ hq9)
  show E _ _ 8 [.ref 38, .int x, .int m, .int v, .null, .null, .null] [.int (b2i (inI x 0 9999))] (hov hp [(38, .inr (7, [.ref 39, .ref 40, .int bu, .int (nI q), .ref 41, .int (nI n), .ref 42, .int fl, .int fa, .int fw, .int fr, .int rs, .int ac, .ref 43, .ref 44, .ref 45, .ref 46, .ref 47, .ref 48, .ref 49]))]) _
  refine E_if_eq (tgt := 30) dX7_year_8 (by decide) (fun c => (b2i_x1 h0 c).elim) (fun _ => ?_)
  refine E_iload_n dX7_year_11 rfl ?_
  refine E_iconst (v := 1) dX7_year_12 (by decide) ?_
  refine E_bipush (v := 99) dX7_year_13 (by decide) ?_
  refine E_callS (As := [.int m, .int 1, .int 99]) (l' := [.int m, .int 1, .int 99]) (st := []) dX7_year_15 kX7_48 sX7_in MX7_in rfl rfl (Nat.le_of_ble_eq_true rfl) (FC.use (c_in (d + 3) _ _ _) rfl (L2 := [(38, .inr (7, [.ref 39, .ref 40, .int bu, .int (nI q), .ref 41, .int (nI n), .ref 42, .int fl, .int fa, .int fw, .int fr, .int rs, .int ac, .ref 43, .ref 44, .ref 45, .ref 46, .ref 47, .ref 48, .ref 49]))]) rfl) (Nat.le_of_ble_eq_true rfl) (fun _ _ hq9 => E_fgo ?_ hq9)
  show E _ _ 18 [.ref 38, .int x, .int m, .int v, .null, .null, .null] [.int (b2i (inI m 1 99))] (hov hp [(38, .inr (7, [.ref 39, .ref 40, .int bu, .int (nI q), .ref 41, .int (nI n), .ref 42, .int fl, .int fa, .int fw, .int fr, .int rs, .int ac, .ref 43, .ref 44, .ref 45, .ref 46, .ref 47, .ref 48, .ref 49]))]) _
  refine E_if_eq (tgt := 30) dX7_year_18 (by decide) (fun c => (b2i_x1 h1 c).elim) (fun _ => ?_)
  refine E_iload_n dX7_year_21 rfl ?_
  refine E_iconst (v := 0) dX7_year_22 (by decide) ?_
  refine E_iconst (v := 2) dX7_year_23 (by decide) ?_
  refine E_callS (As := [.int v, .int 0, .int 2]) (l' := [.int v, .int 0, .int 2]) (st := []) dX7_year_24 kX7_48 sX7_in MX7_in rfl rfl (Nat.le_of_ble_eq_true rfl) (FC.use (c_in (d + 3) _ _ _) rfl (L2 := [(38, .inr (7, [.ref 39, .ref 40, .int bu, .int (nI q), .ref 41, .int (nI n), .ref 42, .int fl, .int fa, .int fw, .int fr, .int rs, .int ac, .ref 43, .ref 44, .ref 45, .ref 46, .ref 47, .ref 48, .ref 49]))]) rfl) (Nat.le_of_ble_eq_true rfl) (fun _ _ hq9 => E_fgo ?_ hq9)
  show E _ _ 27 [.ref 38, .int x, .int m, .int v, .null, .null, .null] [.int (b2i (inI v 0 2))] (hov hp [(38, .inr (7, [.ref 39, .ref 40, .int bu, .int (nI q), .ref 41, .int (nI n), .ref 42, .int fl, .int fa, .int fw, .int fr, .int rs, .int ac, .ref 43, .ref 44, .ref 45, .ref 46, .ref 47, .ref 48, .ref 49]))]) _
  refine E_if_ne (tgt := 33) dX7_year_27 (by decide) (fun c => (b2i_x0 h2 c).elim) (fun _ => ?_)
  refine E_bipush (v := (-2)) dX7_year_30 (by decide) ?_
  exact E_iretf dX7_year_32 rfl rfl rfl rfl

set_option maxHeartbeats 4000000 in
set_option maxRecDepth 20000 in
theorem m_year_0 (d : Nat) (fl fa fw fr rs ac : Int32) (q n : Nat) (s t : CS) (hs : OkS s) (x m : Nat) (hx : x < 10000) (hm : m < 100) (h0 : inI (nI x) 0 9999 = true) (h1 : inI (nI m) 1 99 = true) : FR YX7_year (d + 4) [.ref 38, .int (nI x), .int (nI m), .int 0, .null, .null, .null] [(38, .inr (7, [.ref 39, .ref 40, .int (sbu s), .int (nI q), .ref 41, .int (nI n), .ref 42, .int fl, .int fa, .int fw, .int fr, .int rs, .int ac, .ref 43, .ref 44, .ref 45, .ref 46, .ref 47, .ref 48, .ref 49])), (39, .inl (false, 22, (bkF s))), (40, .inl (false, 22, (bkF t)))] (fun v M => ∃ fl' fr' rs' : Int32, M = [(38, .inr (7, [.ref 39, .ref 40, .int (sbu s), .int (nI q), .ref 41, .int (nI n), .ref 42, .int fl', .int (-6), .int (-6), .int fr', .int rs', .int ac, .ref 43, .ref 44, .ref 45, .ref 46, .ref 47, .ref 48, .ref 49])), (39, .inl (false, 22, (bkF s))), (40, .inl (false, 22, (bkF ((yr s x m).1))))] ∧ v = some (.int (bcI (skn (yr s x m).1)))) := by
  intro hp
  have LS : ∀ i, i ≤ 6 → ∀ (e4 : Int32) (fl fr rs : Int32), E YX7_year (d + 4) 207 [.ref 38, .int (nI x), .int (nI m), .int 0, .int e4, .int (sumN (she (yr s x m).1) i), .int (nI i)] [] (hov hp [(38, .inr (7, [.ref 39, .ref 40, .int (sbu s), .int (nI q), .ref 41, .int (nI n), .ref 42, .int fl, .int (-6), .int (-6), .int fr, .int rs, .int ac, .ref 43, .ref 44, .ref 45, .ref 46, .ref 47, .ref 48, .ref 49])), (39, .inl (false, 22, (bkF s))), (40, .inl (false, 22, (bkF ((yr s x m).1))))]) (fun v h' => ∃ M, h' = hov hp M ∧ (fun v M => ∃ fl' fr' rs' : Int32, M = [(38, .inr (7, [.ref 39, .ref 40, .int (sbu s), .int (nI q), .ref 41, .int (nI n), .ref 42, .int fl', .int (-6), .int (-6), .int fr', .int rs', .int ac, .ref 43, .ref 44, .ref 45, .ref 46, .ref 47, .ref 48, .ref 49])), (39, .inl (false, 22, (bkF s))), (40, .inl (false, 22, (bkF ((yr s x m).1))))] ∧ v = some (.int (bcI (skn (yr s x m).1)))) v M) := by
    refine down 6 ?_ ?_
    · intro e4 fl fr rs
      refine E_iload dX7_year_207 rfl ?_
      refine E_bipush (v := 6) dX7_year_209 (by decide) ?_
      refine E_icmp_ge (tgt := 232) dX7_year_211 (by decide) (fun _ => ?_) (fun c => absurd (by decide) c)
      refine E_iload_n dX7_year_232 rfl ?_
      refine E_if_ne (tgt := 249) dX7_year_233 (by decide) (fun c => by first | exact absurd c (by decide) | exact absurd (by decide) c) (fun _ => ?_)
      refine E_aload_n dX7_year_236 rfl ?_
      refine E_get dX7_year_237 fX7_13 (by decide) rfl rfl ?_
      refine E_bipush (v := 19) dX7_year_240 (by decide) ?_
      refine E_ialdN (j := 19) dX7_year_242 (by decide) rfl (by decide) (by decide) ?_
      refine E_eqi (y := skn (yr s x m).1) rfl ?_
      refine E_callS (As := [.int (skn (yr s x m).1)]) (l' := [.int (skn (yr s x m).1), .null, .null]) (st := []) dX7_year_243 kX7_56 sX7_bits MX7_bits rfl rfl (Nat.le_of_ble_eq_true rfl) (FC.use (c_bits (d + 3) _) rfl (L2 := [(38, .inr (7, [.ref 39, .ref 40, .int (sbu s), .int (nI q), .ref 41, .int (nI n), .ref 42, .int fl, .int (-6), .int (-6), .int fr, .int rs, .int ac, .ref 43, .ref 44, .ref 45, .ref 46, .ref 47, .ref 48, .ref 49])), (39, .inl (false, 22, (bkF s))), (40, .inl (false, 22, (bkF ((yr s x m).1))))]) rfl) (Nat.le_of_ble_eq_true rfl) (fun _ _ hq9 => E_fgo ?_ hq9)
      show E _ _ 246 [.ref 38, .int (nI x), .int (nI m), .int 0, .int e4, .int (sumN (she (yr s x m).1) 6), .int (nI 6)] [.int (bitN (skn (yr s x m).1) 8)] (hov hp [(38, .inr (7, [.ref 39, .ref 40, .int (sbu s), .int (nI q), .ref 41, .int (nI n), .ref 42, .int fl, .int (-6), .int (-6), .int fr, .int rs, .int ac, .ref 43, .ref 44, .ref 45, .ref 46, .ref 47, .ref 48, .ref 49])), (39, .inl (false, 22, (bkF s))), (40, .inl (false, 22, (bkF ((yr s x m).1))))]) _
      refine E_eqi (y := bcI (skn (yr s x m).1)) (bits_of (yr_ok hs x m).1.2.2.2.1) ?_
      refine E_goto (tgt := 269) dX7_year_246 (by decide) ?_
      exact E_iret (st := []) dX7_year_269 rfl rfl ⟨_, rfl, fl, fr, rs, rfl, rfl⟩
    · intro i hi ih e4 fl fr rs
      generalize (yr s x m).1 = Z at ih ⊢
      refine E_iload dX7_year_207 rfl ?_
      refine E_bipush (v := 6) dX7_year_209 (by decide) ?_
      refine E_icmp_ge (tgt := 232) dX7_year_211 (by decide) (fun c => absurd c (cI_nle (n := 6) rfl hi (by decide))) (fun _ => ?_)
      refine E_iload dX7_year_214 rfl ?_
      refine E_aload_n dX7_year_216 rfl ?_
      refine E_get dX7_year_217 fX7_13 (by decide) rfl rfl ?_
      refine E_iload dX7_year_220 rfl ?_
      refine E_ialdN (j := i) dX7_year_222 (by decide) rfl (by omega) (by decide) ?_
      refine E_eqi (y := she Z i) (bk_h hi) ?_
      refine E_iadd dX7_year_223 ?_
      refine E_istore (l2 := [.ref 38, .int (nI x), .int (nI m), .int 0, .int e4, .int ((sumN (she Z) i) + (she Z i)), .int (nI i)]) dX7_year_224 (by decide) rfl ?_
      refine E_iinc (y := nI (i + 1)) (l2 := [.ref 38, .int (nI x), .int (nI m), .int 0, .int e4, .int ((sumN (she Z) i) + (she Z i)), .int (nI (i + 1))]) dX7_year_226 rfl (nI_1 _) (by decide) rfl ?_
      refine E_goto (tgt := 207) dX7_year_229 (by decide) ?_
      exact ih _ _ _ _
  have L : ∀ i, i ≤ m → ∀ (l6 : Value) (fl fr rs : Int32), E YX7_year (d + 4) 43 [.ref 38, .int (nI x), .int (nI m), .int 0, .int (nI ((yr s x i).2)), .int (nI i), l6] [] (hov hp [(38, .inr (7, [.ref 39, .ref 40, .int (sbu s), .int (nI q), .ref 41, .int (nI n), .ref 42, .int fl, .int (-6), .int (-6), .int fr, .int rs, .int ac, .ref 43, .ref 44, .ref 45, .ref 46, .ref 47, .ref 48, .ref 49])), (39, .inl (false, 22, (bkF s))), (40, .inl (false, 22, (bkF ((yr s x i).1))))]) (fun v h' => ∃ M, h' = hov hp M ∧ (fun v M => ∃ fl' fr' rs' : Int32, M = [(38, .inr (7, [.ref 39, .ref 40, .int (sbu s), .int (nI q), .ref 41, .int (nI n), .ref 42, .int fl', .int (-6), .int (-6), .int fr', .int rs', .int ac, .ref 43, .ref 44, .ref 45, .ref 46, .ref 47, .ref 48, .ref 49])), (39, .inl (false, 22, (bkF s))), (40, .inl (false, 22, (bkF ((yr s x m).1))))] ∧ v = some (.int (bcI (skn (yr s x m).1)))) v M) := by
    refine down m ?_ ?_
    · intro l6 fl fr rs
      refine E_iload dX7_year_43 rfl ?_
      refine E_iload_n dX7_year_45 rfl ?_
      refine E_icmp_ge (tgt := 201) dX7_year_46 (by decide) (fun _ => ?_) (fun c => absurd (nI_le (Nat.le_refl _) (by omega)) c)
      refine E_iconst (v := 0) dX7_year_201 (by decide) ?_
      refine E_istore (l2 := [.ref 38, .int (nI x), .int (nI m), .int 0, .int (nI ((yr s x m).2)), .int 0, l6]) dX7_year_202 (by decide) rfl ?_
      refine E_iconst (v := 0) dX7_year_204 (by decide) ?_
      refine E_istore (l2 := [.ref 38, .int (nI x), .int (nI m), .int 0, .int (nI ((yr s x m).2)), .int 0, .int 0]) dX7_year_205 (by decide) rfl ?_
      exact LS 0 (by decide) _ _ _ _
    · intro i hi ih l6 fl fr rs
      have hX := yr_lt (s := s) (seed := x) (by omega) i
      have hOK := yr_ok hs x i
      have hY : yX (yr s x i).2 < 65537 := Nat.mod_lt _ (by decide)
      generalize hy : yX (yr s x i).2 = y at hY
      have eS : (yr s x (i + 1)).1 = yN (yr s x i).1 y := by rw [← hy]; rfl
      have eX : (yr s x (i + 1)).2 = y := by rw [← hy]; rfl
      rw [eS, eX] at ih
      generalize (yr s x i).1 = z at ih hOK ⊢
      obtain ⟨hz, hbz⟩ := hOK
      have hk : y / 6 % 8 = 0 ∨ y / 6 % 8 = 1 ∨ y / 6 % 8 = 2 ∨ y / 6 % 8 = 3 ∨ y / 6 % 8 = 4 ∨ 5 ≤ y / 6 % 8 := by omega
      rcases hk with hk | hk | hk | hk | hk | hk
      · refine E_iload dX7_year_43 rfl ?_
        refine E_iload_n dX7_year_45 rfl ?_
        refine E_icmp_ge (tgt := 201) dX7_year_46 (by decide) (fun c => absurd c (nI_ge hi (by omega))) (fun _ => ?_)
        refine E_bipush (v := 75) dX7_year_49 (by decide) ?_
        refine E_iload dX7_year_51 rfl ?_
        refine E_imul dX7_year_53 ?_
        refine E_bipush (v := 74) dX7_year_54 (by decide) ?_
        refine E_iadd dX7_year_56 ?_
        refine E_ldc dX7_year_57 qX7_151 ?_
        refine E_irem dX7_year_59 (by decide) ?_
        refine E_eqi (y := nI y) (by rw [← hy]; exact yX_m hX) ?_
        refine E_istore (l2 := [.ref 38, .int (nI x), .int (nI m), .int 0, .int (nI y), .int (nI i), l6]) dX7_year_60 (by decide) rfl ?_
        refine E_iload dX7_year_62 rfl ?_
        refine E_bipush (v := 6) dX7_year_64 (by decide) ?_
        refine E_irem dX7_year_66 (by decide) ?_
        refine E_eqi (y := nI (y % 6)) (nI_r (by omega) (by decide) (by decide)) ?_
        refine E_istore (l2 := [.ref 38, .int (nI x), .int (nI m), .int 0, .int (nI y), .int (nI i), .int (nI (y % 6))]) dX7_year_67 (by decide) rfl ?_
        refine E_iload dX7_year_69 rfl ?_
        refine E_bipush (v := 6) dX7_year_71 (by decide) ?_
        refine E_idiv dX7_year_73 (by decide) ?_
        refine E_eqi (y := nI (y / 6)) (nI_d (by omega) (by decide) (by decide)) ?_
        refine E_bipush (v := 8) dX7_year_74 (by decide) ?_
        refine E_irem dX7_year_76 (by decide) ?_
        refine E_eqi (y := nI (y / 6 % 8)) (nI_r (by omega) (by decide) (by decide)) ?_
        refine E_eqi (y := 0) (by rw [hk]; rfl) ?_
        refine E_tableIn (off := 35) (tgt := 112) dX7_year_77 (by decide) (by decide) (by decide) (by decide) ?_
        refine E_aload_n dX7_year_112 rfl ?_
        refine E_aload_n dX7_year_113 rfl ?_
        refine E_iload dX7_year_114 rfl ?_
        refine E_iload dX7_year_116 rfl ?_
        refine E_bipush (v := 48) dX7_year_118 (by decide) ?_
        refine E_idiv dX7_year_120 (by decide) ?_
        refine E_eqi (y := nI (y / 48)) (nI_d (by omega) (by decide) (by decide)) ?_
        refine E_bipush (v := 25) dX7_year_121 (by decide) ?_
        refine E_irem dX7_year_123 (by decide) ?_
        refine E_eqi (y := nI (y / 48 % 25)) (nI_r (by omega) (by decide) (by decide)) ?_
        refine E_callV (As := [.int (nI (y % 6)), .int (nI (y / 48 % 25))]) (l' := [.ref 38, .int (nI (y % 6)), .int (nI (y / 48 % 25)), .null]) (st := [.ref 38]) dX7_year_124 kX7_114 iX7_stack vX7_stack (by decide) rfl rfl MX7_stack rfl rfl (Nat.le_of_ble_eq_true rfl) (FC.use (m_stack (d + 3) (sbu s) fl (-6) (-6) fr rs ac q n z (y % 6) (by omega) (nI (y / 48 % 25))) rfl (L2 := [(38, .inr (7, [.ref 39, .ref 40, .int (sbu s), .int (nI q), .ref 41, .int (nI n), .ref 42, .int fl, .int (-6), .int (-6), .int fr, .int rs, .int ac, .ref 43, .ref 44, .ref 45, .ref 46, .ref 47, .ref 48, .ref 49])), (39, .inl (false, 22, (bkF s))), (40, .inl (false, 22, (bkF (nxS z 0 (y % 6) (nI (y / 48 % 25))))))]) rfl) (Nat.le_of_ble_eq_true rfl) (fun _ _ hq9 => E_fgo ?_ hq9)
        show E _ _ 127 [.ref 38, .int (nI x), .int (nI m), .int 0, .int (nI y), .int (nI i), .int (nI (y % 6))] [.int (rsn z 0 (y % 6) (nI (y / 48 % 25))), .ref 38] (hov hp [(38, .inr (7, [.ref 39, .ref 40, .int (sbu s), .int (nI q), .ref 41, .int (nI n), .ref 42, .int fl, .int (-6), .int (-6), .int fr, .int rs, .int ac, .ref 43, .ref 44, .ref 45, .ref 46, .ref 47, .ref 48, .ref 49])), (39, .inl (false, 22, (bkF s))), (40, .inl (false, 22, (bkF (nxS z 0 (y % 6) (nI (y / 48 % 25))))))]) _
        refine E_puti (fs2 := [.ref 39, .ref 40, .int (sbu s), .int (nI q), .ref 41, .int (nI n), .ref 42, .int fl, .int (-6), .int (-6), .int fr, .int (rsn z 0 (y % 6) (nI (y / 48 % 25))), .int ac, .ref 43, .ref 44, .ref 45, .ref 46, .ref 47, .ref 48, .ref 49]) (L2 := [(38, .inr (7, [.ref 39, .ref 40, .int (sbu s), .int (nI q), .ref 41, .int (nI n), .ref 42, .int fl, .int (-6), .int (-6), .int fr, .int (rsn z 0 (y % 6) (nI (y / 48 % 25))), .int ac, .ref 43, .ref 44, .ref 45, .ref 46, .ref 47, .ref 48, .ref 49])), (39, .inl (false, 22, (bkF s))), (40, .inl (false, 22, (bkF (nxS z 0 (y % 6) (nI (y / 48 % 25))))))]) dX7_year_127 fX7_102 fpX7_11 (by decide) rfl (Nat.le_of_ble_eq_true rfl) rfl rfl ?_
        refine E_goto (tgt := 195) dX7_year_130 (by decide) ?_
        refine E_iinc (y := nI (i + 1)) (l2 := [.ref 38, .int (nI x), .int (nI m), .int 0, .int (nI y), .int (nI (i + 1)), .int (nI (y % 6))]) dX7_year_195 rfl (nI_1 _) (by decide) rfl ?_
        refine E_goto (tgt := 43) dX7_year_198 (by decide) ?_
        have e9 := ih (.int (nI (y % 6))) fl fr (rsn z 0 (y % 6) (nI (y / 48 % 25)))
        rw [yN_x, show yK y = 0 from (by rw [yK, hk]; rfl)] at e9
        exact e9
      · refine E_iload dX7_year_43 rfl ?_
        refine E_iload_n dX7_year_45 rfl ?_
        refine E_icmp_ge (tgt := 201) dX7_year_46 (by decide) (fun c => absurd c (nI_ge hi (by omega))) (fun _ => ?_)
        refine E_bipush (v := 75) dX7_year_49 (by decide) ?_
        refine E_iload dX7_year_51 rfl ?_
        refine E_imul dX7_year_53 ?_
        refine E_bipush (v := 74) dX7_year_54 (by decide) ?_
        refine E_iadd dX7_year_56 ?_
        refine E_ldc dX7_year_57 qX7_151 ?_
        refine E_irem dX7_year_59 (by decide) ?_
        refine E_eqi (y := nI y) (by rw [← hy]; exact yX_m hX) ?_
        refine E_istore (l2 := [.ref 38, .int (nI x), .int (nI m), .int 0, .int (nI y), .int (nI i), l6]) dX7_year_60 (by decide) rfl ?_
        refine E_iload dX7_year_62 rfl ?_
        refine E_bipush (v := 6) dX7_year_64 (by decide) ?_
        refine E_irem dX7_year_66 (by decide) ?_
        refine E_eqi (y := nI (y % 6)) (nI_r (by omega) (by decide) (by decide)) ?_
        refine E_istore (l2 := [.ref 38, .int (nI x), .int (nI m), .int 0, .int (nI y), .int (nI i), .int (nI (y % 6))]) dX7_year_67 (by decide) rfl ?_
        refine E_iload dX7_year_69 rfl ?_
        refine E_bipush (v := 6) dX7_year_71 (by decide) ?_
        refine E_idiv dX7_year_73 (by decide) ?_
        refine E_eqi (y := nI (y / 6)) (nI_d (by omega) (by decide) (by decide)) ?_
        refine E_bipush (v := 8) dX7_year_74 (by decide) ?_
        refine E_irem dX7_year_76 (by decide) ?_
        refine E_eqi (y := nI (y / 6 % 8)) (nI_r (by omega) (by decide) (by decide)) ?_
        refine E_eqi (y := 1) (by rw [hk]; rfl) ?_
        refine E_tableIn (off := 56) (tgt := 133) dX7_year_77 (by decide) (by decide) (by decide) (by decide) ?_
        refine E_aload_n dX7_year_133 rfl ?_
        refine E_aload_n dX7_year_134 rfl ?_
        refine E_iload dX7_year_135 rfl ?_
        refine E_iconst (v := 1) dX7_year_137 (by decide) ?_
        refine E_callV (As := [.int (nI (y % 6)), .int 1]) (l' := [.ref 38, .int (nI (y % 6)), .int 1]) (st := [.ref 38]) dX7_year_138 kX7_105 iX7_turf vX7_turf (by decide) rfl rfl MX7_turf rfl rfl (Nat.le_of_ble_eq_true rfl) (FC.use (m_turf1 (d + 2) (sbu s) fl (-6) (-6) fr rs ac q n z hz (y % 6) (by omega)) rfl (L2 := [(38, .inr (7, [.ref 39, .ref 40, .int (sbu s), .int (nI q), .ref 41, .int (nI n), .ref 42, .int fl, .int (-6), .int (-6), .int fr, .int rs, .int ac, .ref 43, .ref 44, .ref 45, .ref 46, .ref 47, .ref 48, .ref 49])), (39, .inl (false, 22, (bkF s))), (40, .inl (false, 22, (bkF (nxS z 1 (y % 6) 0))))]) rfl) (Nat.le_of_ble_eq_true rfl) (fun _ _ hq9 => E_fgo ?_ hq9)
        show E _ _ 141 [.ref 38, .int (nI x), .int (nI m), .int 0, .int (nI y), .int (nI i), .int (nI (y % 6))] [.int (rsn z 1 (y % 6) 0), .ref 38] (hov hp [(38, .inr (7, [.ref 39, .ref 40, .int (sbu s), .int (nI q), .ref 41, .int (nI n), .ref 42, .int fl, .int (-6), .int (-6), .int fr, .int rs, .int ac, .ref 43, .ref 44, .ref 45, .ref 46, .ref 47, .ref 48, .ref 49])), (39, .inl (false, 22, (bkF s))), (40, .inl (false, 22, (bkF (nxS z 1 (y % 6) 0))))]) _
        refine E_puti (fs2 := [.ref 39, .ref 40, .int (sbu s), .int (nI q), .ref 41, .int (nI n), .ref 42, .int fl, .int (-6), .int (-6), .int fr, .int (rsn z 1 (y % 6) 0), .int ac, .ref 43, .ref 44, .ref 45, .ref 46, .ref 47, .ref 48, .ref 49]) (L2 := [(38, .inr (7, [.ref 39, .ref 40, .int (sbu s), .int (nI q), .ref 41, .int (nI n), .ref 42, .int fl, .int (-6), .int (-6), .int fr, .int (rsn z 1 (y % 6) 0), .int ac, .ref 43, .ref 44, .ref 45, .ref 46, .ref 47, .ref 48, .ref 49])), (39, .inl (false, 22, (bkF s))), (40, .inl (false, 22, (bkF (nxS z 1 (y % 6) 0))))]) dX7_year_141 fX7_102 fpX7_11 (by decide) rfl (Nat.le_of_ble_eq_true rfl) rfl rfl ?_
        refine E_goto (tgt := 195) dX7_year_144 (by decide) ?_
        refine E_iinc (y := nI (i + 1)) (l2 := [.ref 38, .int (nI x), .int (nI m), .int 0, .int (nI y), .int (nI (i + 1)), .int (nI (y % 6))]) dX7_year_195 rfl (nI_1 _) (by decide) rfl ?_
        refine E_goto (tgt := 43) dX7_year_198 (by decide) ?_
        have e9 := ih (.int (nI (y % 6))) fl fr (rsn z 1 (y % 6) 0)
        rw [yN_x, show yK y = 1 from (by rw [yK, hk]; rfl)] at e9
        exact e9
      · refine E_iload dX7_year_43 rfl ?_
        refine E_iload_n dX7_year_45 rfl ?_
        refine E_icmp_ge (tgt := 201) dX7_year_46 (by decide) (fun c => absurd c (nI_ge hi (by omega))) (fun _ => ?_)
        refine E_bipush (v := 75) dX7_year_49 (by decide) ?_
        refine E_iload dX7_year_51 rfl ?_
        refine E_imul dX7_year_53 ?_
        refine E_bipush (v := 74) dX7_year_54 (by decide) ?_
        refine E_iadd dX7_year_56 ?_
        refine E_ldc dX7_year_57 qX7_151 ?_
        refine E_irem dX7_year_59 (by decide) ?_
        refine E_eqi (y := nI y) (by rw [← hy]; exact yX_m hX) ?_
        refine E_istore (l2 := [.ref 38, .int (nI x), .int (nI m), .int 0, .int (nI y), .int (nI i), l6]) dX7_year_60 (by decide) rfl ?_
        refine E_iload dX7_year_62 rfl ?_
        refine E_bipush (v := 6) dX7_year_64 (by decide) ?_
        refine E_irem dX7_year_66 (by decide) ?_
        refine E_eqi (y := nI (y % 6)) (nI_r (by omega) (by decide) (by decide)) ?_
        refine E_istore (l2 := [.ref 38, .int (nI x), .int (nI m), .int 0, .int (nI y), .int (nI i), .int (nI (y % 6))]) dX7_year_67 (by decide) rfl ?_
        refine E_iload dX7_year_69 rfl ?_
        refine E_bipush (v := 6) dX7_year_71 (by decide) ?_
        refine E_idiv dX7_year_73 (by decide) ?_
        refine E_eqi (y := nI (y / 6)) (nI_d (by omega) (by decide) (by decide)) ?_
        refine E_bipush (v := 8) dX7_year_74 (by decide) ?_
        refine E_irem dX7_year_76 (by decide) ?_
        refine E_eqi (y := nI (y / 6 % 8)) (nI_r (by omega) (by decide) (by decide)) ?_
        refine E_eqi (y := 2) (by rw [hk]; rfl) ?_
        refine E_tableIn (off := 70) (tgt := 147) dX7_year_77 (by decide) (by decide) (by decide) (by decide) ?_
        refine E_aload_n dX7_year_147 rfl ?_
        refine E_aload_n dX7_year_148 rfl ?_
        refine E_iload dX7_year_149 rfl ?_
        refine E_iconst (v := (-1)) dX7_year_151 (by decide) ?_
        refine E_callV (As := [.int (nI (y % 6)), .int (-1)]) (l' := [.ref 38, .int (nI (y % 6)), .int (-1)]) (st := [.ref 38]) dX7_year_152 kX7_105 iX7_turf vX7_turf (by decide) rfl rfl MX7_turf rfl rfl (Nat.le_of_ble_eq_true rfl) (FC.use (m_turf2 (d + 2) (sbu s) fl (-6) (-6) fr rs ac q n z hz (y % 6) (by omega)) rfl (L2 := [(38, .inr (7, [.ref 39, .ref 40, .int (sbu s), .int (nI q), .ref 41, .int (nI n), .ref 42, .int fl, .int (-6), .int (-6), .int fr, .int rs, .int ac, .ref 43, .ref 44, .ref 45, .ref 46, .ref 47, .ref 48, .ref 49])), (39, .inl (false, 22, (bkF s))), (40, .inl (false, 22, (bkF (nxS z 2 (y % 6) 0))))]) rfl) (Nat.le_of_ble_eq_true rfl) (fun _ _ hq9 => E_fgo ?_ hq9)
        show E _ _ 155 [.ref 38, .int (nI x), .int (nI m), .int 0, .int (nI y), .int (nI i), .int (nI (y % 6))] [.int (rsn z 2 (y % 6) 0), .ref 38] (hov hp [(38, .inr (7, [.ref 39, .ref 40, .int (sbu s), .int (nI q), .ref 41, .int (nI n), .ref 42, .int fl, .int (-6), .int (-6), .int fr, .int rs, .int ac, .ref 43, .ref 44, .ref 45, .ref 46, .ref 47, .ref 48, .ref 49])), (39, .inl (false, 22, (bkF s))), (40, .inl (false, 22, (bkF (nxS z 2 (y % 6) 0))))]) _
        refine E_puti (fs2 := [.ref 39, .ref 40, .int (sbu s), .int (nI q), .ref 41, .int (nI n), .ref 42, .int fl, .int (-6), .int (-6), .int fr, .int (rsn z 2 (y % 6) 0), .int ac, .ref 43, .ref 44, .ref 45, .ref 46, .ref 47, .ref 48, .ref 49]) (L2 := [(38, .inr (7, [.ref 39, .ref 40, .int (sbu s), .int (nI q), .ref 41, .int (nI n), .ref 42, .int fl, .int (-6), .int (-6), .int fr, .int (rsn z 2 (y % 6) 0), .int ac, .ref 43, .ref 44, .ref 45, .ref 46, .ref 47, .ref 48, .ref 49])), (39, .inl (false, 22, (bkF s))), (40, .inl (false, 22, (bkF (nxS z 2 (y % 6) 0))))]) dX7_year_155 fX7_102 fpX7_11 (by decide) rfl (Nat.le_of_ble_eq_true rfl) rfl rfl ?_
        refine E_goto (tgt := 195) dX7_year_158 (by decide) ?_
        refine E_iinc (y := nI (i + 1)) (l2 := [.ref 38, .int (nI x), .int (nI m), .int 0, .int (nI y), .int (nI (i + 1)), .int (nI (y % 6))]) dX7_year_195 rfl (nI_1 _) (by decide) rfl ?_
        refine E_goto (tgt := 43) dX7_year_198 (by decide) ?_
        have e9 := ih (.int (nI (y % 6))) fl fr (rsn z 2 (y % 6) 0)
        rw [yN_x, show yK y = 2 from (by rw [yK, hk]; rfl)] at e9
        exact e9
      · refine E_iload dX7_year_43 rfl ?_
        refine E_iload_n dX7_year_45 rfl ?_
        refine E_icmp_ge (tgt := 201) dX7_year_46 (by decide) (fun c => absurd c (nI_ge hi (by omega))) (fun _ => ?_)
        refine E_bipush (v := 75) dX7_year_49 (by decide) ?_
        refine E_iload dX7_year_51 rfl ?_
        refine E_imul dX7_year_53 ?_
        refine E_bipush (v := 74) dX7_year_54 (by decide) ?_
        refine E_iadd dX7_year_56 ?_
        refine E_ldc dX7_year_57 qX7_151 ?_
        refine E_irem dX7_year_59 (by decide) ?_
        refine E_eqi (y := nI y) (by rw [← hy]; exact yX_m hX) ?_
        refine E_istore (l2 := [.ref 38, .int (nI x), .int (nI m), .int 0, .int (nI y), .int (nI i), l6]) dX7_year_60 (by decide) rfl ?_
        refine E_iload dX7_year_62 rfl ?_
        refine E_bipush (v := 6) dX7_year_64 (by decide) ?_
        refine E_irem dX7_year_66 (by decide) ?_
        refine E_eqi (y := nI (y % 6)) (nI_r (by omega) (by decide) (by decide)) ?_
        refine E_istore (l2 := [.ref 38, .int (nI x), .int (nI m), .int 0, .int (nI y), .int (nI i), .int (nI (y % 6))]) dX7_year_67 (by decide) rfl ?_
        refine E_iload dX7_year_69 rfl ?_
        refine E_bipush (v := 6) dX7_year_71 (by decide) ?_
        refine E_idiv dX7_year_73 (by decide) ?_
        refine E_eqi (y := nI (y / 6)) (nI_d (by omega) (by decide) (by decide)) ?_
        refine E_bipush (v := 8) dX7_year_74 (by decide) ?_
        refine E_irem dX7_year_76 (by decide) ?_
        refine E_eqi (y := nI (y / 6 % 8)) (nI_r (by omega) (by decide) (by decide)) ?_
        refine E_eqi (y := 3) (by rw [hk]; rfl) ?_
        refine E_tableIn (off := 84) (tgt := 161) dX7_year_77 (by decide) (by decide) (by decide) (by decide) ?_
        refine E_aload_n dX7_year_161 rfl ?_
        refine E_aload_n dX7_year_162 rfl ?_
        refine E_iload dX7_year_163 rfl ?_
        refine E_callV (As := [.int (nI (y % 6))]) (l' := [.ref 38, .int (nI (y % 6))]) (st := [.ref 38]) dX7_year_165 kX7_108 iX7_kindle vX7_kindle (by decide) rfl rfl MX7_kindle rfl rfl (Nat.le_of_ble_eq_true rfl) (FC.use (m_kindle (d + 2) (sbu s) fl (-6) (-6) fr rs ac q n z hz (y % 6) (by omega)) rfl (L2 := [(38, .inr (7, [.ref 39, .ref 40, .int (sbu s), .int (nI q), .ref 41, .int (nI n), .ref 42, .int fl, .int (-6), .int (-6), .int fr, .int rs, .int ac, .ref 43, .ref 44, .ref 45, .ref 46, .ref 47, .ref 48, .ref 49])), (39, .inl (false, 22, (bkF s))), (40, .inl (false, 22, (bkF (nxS z 3 (y % 6) 0))))]) rfl) (Nat.le_of_ble_eq_true rfl) (fun _ _ hq9 => E_fgo ?_ hq9)
        show E _ _ 168 [.ref 38, .int (nI x), .int (nI m), .int 0, .int (nI y), .int (nI i), .int (nI (y % 6))] [.int (rsn z 3 (y % 6) 0), .ref 38] (hov hp [(38, .inr (7, [.ref 39, .ref 40, .int (sbu s), .int (nI q), .ref 41, .int (nI n), .ref 42, .int fl, .int (-6), .int (-6), .int fr, .int rs, .int ac, .ref 43, .ref 44, .ref 45, .ref 46, .ref 47, .ref 48, .ref 49])), (39, .inl (false, 22, (bkF s))), (40, .inl (false, 22, (bkF (nxS z 3 (y % 6) 0))))]) _
        refine E_puti (fs2 := [.ref 39, .ref 40, .int (sbu s), .int (nI q), .ref 41, .int (nI n), .ref 42, .int fl, .int (-6), .int (-6), .int fr, .int (rsn z 3 (y % 6) 0), .int ac, .ref 43, .ref 44, .ref 45, .ref 46, .ref 47, .ref 48, .ref 49]) (L2 := [(38, .inr (7, [.ref 39, .ref 40, .int (sbu s), .int (nI q), .ref 41, .int (nI n), .ref 42, .int fl, .int (-6), .int (-6), .int fr, .int (rsn z 3 (y % 6) 0), .int ac, .ref 43, .ref 44, .ref 45, .ref 46, .ref 47, .ref 48, .ref 49])), (39, .inl (false, 22, (bkF s))), (40, .inl (false, 22, (bkF (nxS z 3 (y % 6) 0))))]) dX7_year_168 fX7_102 fpX7_11 (by decide) rfl (Nat.le_of_ble_eq_true rfl) rfl rfl ?_
        refine E_goto (tgt := 195) dX7_year_171 (by decide) ?_
        refine E_iinc (y := nI (i + 1)) (l2 := [.ref 38, .int (nI x), .int (nI m), .int 0, .int (nI y), .int (nI (i + 1)), .int (nI (y % 6))]) dX7_year_195 rfl (nI_1 _) (by decide) rfl ?_
        refine E_goto (tgt := 43) dX7_year_198 (by decide) ?_
        have e9 := ih (.int (nI (y % 6))) fl fr (rsn z 3 (y % 6) 0)
        rw [yN_x, show yK y = 3 from (by rw [yK, hk]; rfl)] at e9
        exact e9
      · refine E_iload dX7_year_43 rfl ?_
        refine E_iload_n dX7_year_45 rfl ?_
        refine E_icmp_ge (tgt := 201) dX7_year_46 (by decide) (fun c => absurd c (nI_ge hi (by omega))) (fun _ => ?_)
        refine E_bipush (v := 75) dX7_year_49 (by decide) ?_
        refine E_iload dX7_year_51 rfl ?_
        refine E_imul dX7_year_53 ?_
        refine E_bipush (v := 74) dX7_year_54 (by decide) ?_
        refine E_iadd dX7_year_56 ?_
        refine E_ldc dX7_year_57 qX7_151 ?_
        refine E_irem dX7_year_59 (by decide) ?_
        refine E_eqi (y := nI y) (by rw [← hy]; exact yX_m hX) ?_
        refine E_istore (l2 := [.ref 38, .int (nI x), .int (nI m), .int 0, .int (nI y), .int (nI i), l6]) dX7_year_60 (by decide) rfl ?_
        refine E_iload dX7_year_62 rfl ?_
        refine E_bipush (v := 6) dX7_year_64 (by decide) ?_
        refine E_irem dX7_year_66 (by decide) ?_
        refine E_eqi (y := nI (y % 6)) (nI_r (by omega) (by decide) (by decide)) ?_
        refine E_istore (l2 := [.ref 38, .int (nI x), .int (nI m), .int 0, .int (nI y), .int (nI i), .int (nI (y % 6))]) dX7_year_67 (by decide) rfl ?_
        refine E_iload dX7_year_69 rfl ?_
        refine E_bipush (v := 6) dX7_year_71 (by decide) ?_
        refine E_idiv dX7_year_73 (by decide) ?_
        refine E_eqi (y := nI (y / 6)) (nI_d (by omega) (by decide) (by decide)) ?_
        refine E_bipush (v := 8) dX7_year_74 (by decide) ?_
        refine E_irem dX7_year_76 (by decide) ?_
        refine E_eqi (y := nI (y / 6 % 8)) (nI_r (by omega) (by decide) (by decide)) ?_
        refine E_eqi (y := 4) (by rw [hk]; rfl) ?_
        refine E_tableIn (off := 97) (tgt := 174) dX7_year_77 (by decide) (by decide) (by decide) (by decide) ?_
        refine E_aload_n dX7_year_174 rfl ?_
        refine E_aload_n dX7_year_175 rfl ?_
        refine E_iload dX7_year_176 rfl ?_
        refine E_callV (As := [.int (nI (y % 6))]) (l' := [.ref 38, .int (nI (y % 6))]) (st := [.ref 38]) dX7_year_178 kX7_111 iX7_watch vX7_watch (by decide) rfl rfl MX7_watch rfl rfl (Nat.le_of_ble_eq_true rfl) (FC.use (m_watch (d + 2) (sbu s) fl (-6) (-6) fr rs ac q n z hz (y % 6) (by omega) hbz.symm) rfl (L2 := [(38, .inr (7, [.ref 39, .ref 40, .int (sbu s), .int (nI q), .ref 41, .int (nI n), .ref 42, .int fl, .int (-6), .int (-6), .int fr, .int rs, .int ac, .ref 43, .ref 44, .ref 45, .ref 46, .ref 47, .ref 48, .ref 49])), (39, .inl (false, 22, (bkF s))), (40, .inl (false, 22, (bkF (nxS z 4 (y % 6) 0))))]) rfl) (Nat.le_of_ble_eq_true rfl) (fun _ _ hq9 => E_fgo ?_ hq9)
        show E _ _ 181 [.ref 38, .int (nI x), .int (nI m), .int 0, .int (nI y), .int (nI i), .int (nI (y % 6))] [.int (rsn z 4 (y % 6) 0), .ref 38] (hov hp [(38, .inr (7, [.ref 39, .ref 40, .int (sbu s), .int (nI q), .ref 41, .int (nI n), .ref 42, .int fl, .int (-6), .int (-6), .int fr, .int rs, .int ac, .ref 43, .ref 44, .ref 45, .ref 46, .ref 47, .ref 48, .ref 49])), (39, .inl (false, 22, (bkF s))), (40, .inl (false, 22, (bkF (nxS z 4 (y % 6) 0))))]) _
        refine E_puti (fs2 := [.ref 39, .ref 40, .int (sbu s), .int (nI q), .ref 41, .int (nI n), .ref 42, .int fl, .int (-6), .int (-6), .int fr, .int (rsn z 4 (y % 6) 0), .int ac, .ref 43, .ref 44, .ref 45, .ref 46, .ref 47, .ref 48, .ref 49]) (L2 := [(38, .inr (7, [.ref 39, .ref 40, .int (sbu s), .int (nI q), .ref 41, .int (nI n), .ref 42, .int fl, .int (-6), .int (-6), .int fr, .int (rsn z 4 (y % 6) 0), .int ac, .ref 43, .ref 44, .ref 45, .ref 46, .ref 47, .ref 48, .ref 49])), (39, .inl (false, 22, (bkF s))), (40, .inl (false, 22, (bkF (nxS z 4 (y % 6) 0))))]) dX7_year_181 fX7_102 fpX7_11 (by decide) rfl (Nat.le_of_ble_eq_true rfl) rfl rfl ?_
        refine E_goto (tgt := 195) dX7_year_184 (by decide) ?_
        refine E_iinc (y := nI (i + 1)) (l2 := [.ref 38, .int (nI x), .int (nI m), .int 0, .int (nI y), .int (nI (i + 1)), .int (nI (y % 6))]) dX7_year_195 rfl (nI_1 _) (by decide) rfl ?_
        refine E_goto (tgt := 43) dX7_year_198 (by decide) ?_
        have e9 := ih (.int (nI (y % 6))) fl fr (rsn z 4 (y % 6) 0)
        rw [yN_x, show yK y = 4 from (by rw [yK, hk]; rfl)] at e9
        exact e9
      · by_cases hn99 : sni z < 99
        · refine E_iload dX7_year_43 rfl ?_
          refine E_iload_n dX7_year_45 rfl ?_
          refine E_icmp_ge (tgt := 201) dX7_year_46 (by decide) (fun c => absurd c (nI_ge hi (by omega))) (fun _ => ?_)
          refine E_bipush (v := 75) dX7_year_49 (by decide) ?_
          refine E_iload dX7_year_51 rfl ?_
          refine E_imul dX7_year_53 ?_
          refine E_bipush (v := 74) dX7_year_54 (by decide) ?_
          refine E_iadd dX7_year_56 ?_
          refine E_ldc dX7_year_57 qX7_151 ?_
          refine E_irem dX7_year_59 (by decide) ?_
          refine E_eqi (y := nI y) (by rw [← hy]; exact yX_m hX) ?_
          refine E_istore (l2 := [.ref 38, .int (nI x), .int (nI m), .int 0, .int (nI y), .int (nI i), l6]) dX7_year_60 (by decide) rfl ?_
          refine E_iload dX7_year_62 rfl ?_
          refine E_bipush (v := 6) dX7_year_64 (by decide) ?_
          refine E_irem dX7_year_66 (by decide) ?_
          refine E_eqi (y := nI (y % 6)) (nI_r (by omega) (by decide) (by decide)) ?_
          refine E_istore (l2 := [.ref 38, .int (nI x), .int (nI m), .int 0, .int (nI y), .int (nI i), .int (nI (y % 6))]) dX7_year_67 (by decide) rfl ?_
          refine E_iload dX7_year_69 rfl ?_
          refine E_bipush (v := 6) dX7_year_71 (by decide) ?_
          refine E_idiv dX7_year_73 (by decide) ?_
          refine E_eqi (y := nI (y / 6)) (nI_d (by omega) (by decide) (by decide)) ?_
          refine E_bipush (v := 8) dX7_year_74 (by decide) ?_
          refine E_irem dX7_year_76 (by decide) ?_
          refine E_eqi (y := nI (y / 6 % 8)) (nI_r (by omega) (by decide) (by decide)) ?_
          refine E_tableOut (tgt := 187) dX7_year_77 (.inr (by rw [nI_toInt (by omega)]; omega)) (by decide) ?_
          refine E_aload_n dX7_year_187 rfl ?_
          refine E_aload_n dX7_year_188 rfl ?_
          refine E_callV (As := []) (l' := [.ref 38]) (st := [.ref 38]) dX7_year_189 kX7_99 iX7_endNight vX7_endNight (by decide) rfl rfl MX7_endNight rfl rfl (Nat.le_of_ble_eq_true rfl) (FC.use (m_night0 d (sbu s) fl (-6) (-6) fr rs ac q n z hz hn99) rfl (L2 := [(38, .inr (7, [.ref 39, .ref 40, .int (sbu s), .int (nI q), .ref 41, .int (nI n), .ref 42, .int (fl + bcI (ngF z)), .int (-6), .int (-6), .int (ngF z), .int rs, .int ac, .ref 43, .ref 44, .ref 45, .ref 46, .ref 47, .ref 48, .ref 49])), (39, .inl (false, 22, (bkF s))), (40, .inl (false, 22, (bkF (ngS z))))]) rfl) (Nat.le_of_ble_eq_true rfl) (fun _ _ hq9 => E_fgo ?_ hq9)
          show E _ _ 192 [.ref 38, .int (nI x), .int (nI m), .int 0, .int (nI y), .int (nI i), .int (nI (y % 6))] [.int (rsn z 5 0 0), .ref 38] (hov hp [(38, .inr (7, [.ref 39, .ref 40, .int (sbu s), .int (nI q), .ref 41, .int (nI n), .ref 42, .int (fl + bcI (ngF z)), .int (-6), .int (-6), .int (ngF z), .int rs, .int ac, .ref 43, .ref 44, .ref 45, .ref 46, .ref 47, .ref 48, .ref 49])), (39, .inl (false, 22, (bkF s))), (40, .inl (false, 22, (bkF (ngS z))))]) _
          refine E_puti (fs2 := [.ref 39, .ref 40, .int (sbu s), .int (nI q), .ref 41, .int (nI n), .ref 42, .int (fl + bcI (ngF z)), .int (-6), .int (-6), .int (ngF z), .int (rsn z 5 0 0), .int ac, .ref 43, .ref 44, .ref 45, .ref 46, .ref 47, .ref 48, .ref 49]) (L2 := [(38, .inr (7, [.ref 39, .ref 40, .int (sbu s), .int (nI q), .ref 41, .int (nI n), .ref 42, .int (fl + bcI (ngF z)), .int (-6), .int (-6), .int (ngF z), .int (rsn z 5 0 0), .int ac, .ref 43, .ref 44, .ref 45, .ref 46, .ref 47, .ref 48, .ref 49])), (39, .inl (false, 22, (bkF s))), (40, .inl (false, 22, (bkF (ngS z))))]) dX7_year_192 fX7_102 fpX7_11 (by decide) rfl (Nat.le_of_ble_eq_true rfl) rfl rfl ?_
          refine E_iinc (y := nI (i + 1)) (l2 := [.ref 38, .int (nI x), .int (nI m), .int 0, .int (nI y), .int (nI (i + 1)), .int (nI (y % 6))]) dX7_year_195 rfl (nI_1 _) (by decide) rfl ?_
          refine E_goto (tgt := 43) dX7_year_198 (by decide) ?_
          have e9 := ih (.int (nI (y % 6))) (fl + bcI (ngF z)) (ngF z) (rsn z 5 0 0)
          rw [yN_x, show yK y = 5 from (by rw [yK, if_neg (by omega)])] at e9
          rw [show nxS z 5 (y % 6) (nI (y / 48 % 25)) = ngS z from (nxS_0 (by simp only [rsn]; rw [if_pos hn99])).trans rfl] at e9
          exact e9
        · refine E_iload dX7_year_43 rfl ?_
          refine E_iload_n dX7_year_45 rfl ?_
          refine E_icmp_ge (tgt := 201) dX7_year_46 (by decide) (fun c => absurd c (nI_ge hi (by omega))) (fun _ => ?_)
          refine E_bipush (v := 75) dX7_year_49 (by decide) ?_
          refine E_iload dX7_year_51 rfl ?_
          refine E_imul dX7_year_53 ?_
          refine E_bipush (v := 74) dX7_year_54 (by decide) ?_
          refine E_iadd dX7_year_56 ?_
          refine E_ldc dX7_year_57 qX7_151 ?_
          refine E_irem dX7_year_59 (by decide) ?_
          refine E_eqi (y := nI y) (by rw [← hy]; exact yX_m hX) ?_
          refine E_istore (l2 := [.ref 38, .int (nI x), .int (nI m), .int 0, .int (nI y), .int (nI i), l6]) dX7_year_60 (by decide) rfl ?_
          refine E_iload dX7_year_62 rfl ?_
          refine E_bipush (v := 6) dX7_year_64 (by decide) ?_
          refine E_irem dX7_year_66 (by decide) ?_
          refine E_eqi (y := nI (y % 6)) (nI_r (by omega) (by decide) (by decide)) ?_
          refine E_istore (l2 := [.ref 38, .int (nI x), .int (nI m), .int 0, .int (nI y), .int (nI i), .int (nI (y % 6))]) dX7_year_67 (by decide) rfl ?_
          refine E_iload dX7_year_69 rfl ?_
          refine E_bipush (v := 6) dX7_year_71 (by decide) ?_
          refine E_idiv dX7_year_73 (by decide) ?_
          refine E_eqi (y := nI (y / 6)) (nI_d (by omega) (by decide) (by decide)) ?_
          refine E_bipush (v := 8) dX7_year_74 (by decide) ?_
          refine E_irem dX7_year_76 (by decide) ?_
          refine E_eqi (y := nI (y / 6 % 8)) (nI_r (by omega) (by decide) (by decide)) ?_
          refine E_tableOut (tgt := 187) dX7_year_77 (.inr (by rw [nI_toInt (by omega)]; omega)) (by decide) ?_
          refine E_aload_n dX7_year_187 rfl ?_
          refine E_aload_n dX7_year_188 rfl ?_
          refine E_callV (As := []) (l' := [.ref 38]) (st := [.ref 38]) dX7_year_189 kX7_99 iX7_endNight vX7_endNight (by decide) rfl rfl MX7_endNight rfl rfl (Nat.le_of_ble_eq_true rfl) (FC.use (m_night1 d (sbu s) fl (-6) (-6) fr rs ac q n z (n99_e hz hn99)) rfl (L2 := [(38, .inr (7, [.ref 39, .ref 40, .int (sbu s), .int (nI q), .ref 41, .int (nI n), .ref 42, .int fl, .int (-6), .int (-6), .int fr, .int rs, .int ac, .ref 43, .ref 44, .ref 45, .ref 46, .ref 47, .ref 48, .ref 49])), (39, .inl (false, 22, (bkF s))), (40, .inl (false, 22, (bkF z)))]) rfl) (Nat.le_of_ble_eq_true rfl) (fun _ _ hq9 => E_fgo ?_ hq9)
          show E _ _ 192 [.ref 38, .int (nI x), .int (nI m), .int 0, .int (nI y), .int (nI i), .int (nI (y % 6))] [.int (rsn z 5 0 0), .ref 38] (hov hp [(38, .inr (7, [.ref 39, .ref 40, .int (sbu s), .int (nI q), .ref 41, .int (nI n), .ref 42, .int fl, .int (-6), .int (-6), .int fr, .int rs, .int ac, .ref 43, .ref 44, .ref 45, .ref 46, .ref 47, .ref 48, .ref 49])), (39, .inl (false, 22, (bkF s))), (40, .inl (false, 22, (bkF z)))]) _
          refine E_puti (fs2 := [.ref 39, .ref 40, .int (sbu s), .int (nI q), .ref 41, .int (nI n), .ref 42, .int fl, .int (-6), .int (-6), .int fr, .int (rsn z 5 0 0), .int ac, .ref 43, .ref 44, .ref 45, .ref 46, .ref 47, .ref 48, .ref 49]) (L2 := [(38, .inr (7, [.ref 39, .ref 40, .int (sbu s), .int (nI q), .ref 41, .int (nI n), .ref 42, .int fl, .int (-6), .int (-6), .int fr, .int (rsn z 5 0 0), .int ac, .ref 43, .ref 44, .ref 45, .ref 46, .ref 47, .ref 48, .ref 49])), (39, .inl (false, 22, (bkF s))), (40, .inl (false, 22, (bkF z)))]) dX7_year_192 fX7_102 fpX7_11 (by decide) rfl (Nat.le_of_ble_eq_true rfl) rfl rfl ?_
          refine E_iinc (y := nI (i + 1)) (l2 := [.ref 38, .int (nI x), .int (nI m), .int 0, .int (nI y), .int (nI (i + 1)), .int (nI (y % 6))]) dX7_year_195 rfl (nI_1 _) (by decide) rfl ?_
          refine E_goto (tgt := 43) dX7_year_198 (by decide) ?_
          have e9 := ih (.int (nI (y % 6))) fl fr (rsn z 5 0 0)
          rw [yN_x, show yK y = 5 from (by rw [yK, if_neg (by omega)])] at e9
          rw [show nxS z 5 (y % 6) (nI (y / 48 % 25)) = z from nxS_1 (by simp only [rsn]; rw [if_neg hn99]; decide)] at e9
          exact e9
  refine E_iload_n dX7_year_0 rfl ?_
  refine E_iconst (v := 0) dX7_year_1 (by decide) ?_
  refine E_sipush (v := 9999) dX7_year_2 (by decide) ?_
  refine E_callS (As := [.int (nI x), .int 0, .int 9999]) (l' := [.int (nI x), .int 0, .int 9999]) (st := []) dX7_year_5 kX7_48 sX7_in MX7_in rfl rfl (Nat.le_of_ble_eq_true rfl) (FC.use (c_in (d + 3) _ _ _) rfl (L2 := [(38, .inr (7, [.ref 39, .ref 40, .int (sbu s), .int (nI q), .ref 41, .int (nI n), .ref 42, .int fl, .int fa, .int fw, .int fr, .int rs, .int ac, .ref 43, .ref 44, .ref 45, .ref 46, .ref 47, .ref 48, .ref 49])), (39, .inl (false, 22, (bkF s))), (40, .inl (false, 22, (bkF t)))]) rfl) (Nat.le_of_ble_eq_true rfl) (fun _ _ hq9 => E_fgo ?_ hq9)
  show E _ _ 8 [.ref 38, .int (nI x), .int (nI m), .int 0, .null, .null, .null] [.int (b2i (inI (nI x) 0 9999))] (hov hp [(38, .inr (7, [.ref 39, .ref 40, .int (sbu s), .int (nI q), .ref 41, .int (nI n), .ref 42, .int fl, .int fa, .int fw, .int fr, .int rs, .int ac, .ref 43, .ref 44, .ref 45, .ref 46, .ref 47, .ref 48, .ref 49])), (39, .inl (false, 22, (bkF s))), (40, .inl (false, 22, (bkF t)))]) _
  refine E_if_eq (tgt := 30) dX7_year_8 (by decide) (fun c => (b2i_x1 h0 c).elim) (fun _ => ?_)
  refine E_iload_n dX7_year_11 rfl ?_
  refine E_iconst (v := 1) dX7_year_12 (by decide) ?_
  refine E_bipush (v := 99) dX7_year_13 (by decide) ?_
  refine E_callS (As := [.int (nI m), .int 1, .int 99]) (l' := [.int (nI m), .int 1, .int 99]) (st := []) dX7_year_15 kX7_48 sX7_in MX7_in rfl rfl (Nat.le_of_ble_eq_true rfl) (FC.use (c_in (d + 3) _ _ _) rfl (L2 := [(38, .inr (7, [.ref 39, .ref 40, .int (sbu s), .int (nI q), .ref 41, .int (nI n), .ref 42, .int fl, .int fa, .int fw, .int fr, .int rs, .int ac, .ref 43, .ref 44, .ref 45, .ref 46, .ref 47, .ref 48, .ref 49])), (39, .inl (false, 22, (bkF s))), (40, .inl (false, 22, (bkF t)))]) rfl) (Nat.le_of_ble_eq_true rfl) (fun _ _ hq9 => E_fgo ?_ hq9)
  show E _ _ 18 [.ref 38, .int (nI x), .int (nI m), .int 0, .null, .null, .null] [.int (b2i (inI (nI m) 1 99))] (hov hp [(38, .inr (7, [.ref 39, .ref 40, .int (sbu s), .int (nI q), .ref 41, .int (nI n), .ref 42, .int fl, .int fa, .int fw, .int fr, .int rs, .int ac, .ref 43, .ref 44, .ref 45, .ref 46, .ref 47, .ref 48, .ref 49])), (39, .inl (false, 22, (bkF s))), (40, .inl (false, 22, (bkF t)))]) _
  refine E_if_eq (tgt := 30) dX7_year_18 (by decide) (fun c => (b2i_x1 h1 c).elim) (fun _ => ?_)
  refine E_iload_n dX7_year_21 rfl ?_
  refine E_iconst (v := 0) dX7_year_22 (by decide) ?_
  refine E_iconst (v := 2) dX7_year_23 (by decide) ?_
  refine E_callS (As := [.int 0, .int 0, .int 2]) (l' := [.int 0, .int 0, .int 2]) (st := []) dX7_year_24 kX7_48 sX7_in MX7_in rfl rfl (Nat.le_of_ble_eq_true rfl) (FC.use (c_in (d + 3) _ _ _) rfl (L2 := [(38, .inr (7, [.ref 39, .ref 40, .int (sbu s), .int (nI q), .ref 41, .int (nI n), .ref 42, .int fl, .int fa, .int fw, .int fr, .int rs, .int ac, .ref 43, .ref 44, .ref 45, .ref 46, .ref 47, .ref 48, .ref 49])), (39, .inl (false, 22, (bkF s))), (40, .inl (false, 22, (bkF t)))]) rfl) (Nat.le_of_ble_eq_true rfl) (fun _ _ hq9 => E_fgo ?_ hq9)
  show E _ _ 27 [.ref 38, .int (nI x), .int (nI m), .int 0, .null, .null, .null] [.int (b2i (inI 0 0 2))] (hov hp [(38, .inr (7, [.ref 39, .ref 40, .int (sbu s), .int (nI q), .ref 41, .int (nI n), .ref 42, .int fl, .int fa, .int fw, .int fr, .int rs, .int ac, .ref 43, .ref 44, .ref 45, .ref 46, .ref 47, .ref 48, .ref 49])), (39, .inl (false, 22, (bkF s))), (40, .inl (false, 22, (bkF t)))]) _
  refine E_if_ne (tgt := 33) dX7_year_27 (by decide) (fun _ => ?_) (fun c => (b2i_x1 (by decide) c).elim)
  refine E_aload_n dX7_year_33 rfl ?_
  refine E_callV (As := []) (l' := [.ref 38, .null]) (st := []) dX7_year_34 kX7_93 iX7_asNow vX7_asNow (by decide) rfl rfl MX7_asNow rfl rfl (Nat.le_of_ble_eq_true rfl) (FC.use (c_asNow (d + 3) (sbu s) fl fa fw fr rs ac q n s t) rfl (L2 := [(38, .inr (7, [.ref 39, .ref 40, .int (sbu s), .int (nI q), .ref 41, .int (nI n), .ref 42, .int 0, .int (-6), .int (-6), .int fr, .int rs, .int ac, .ref 43, .ref 44, .ref 45, .ref 46, .ref 47, .ref 48, .ref 49])), (39, .inl (false, 22, (bkF s))), (40, .inl (false, 22, (bkF s)))]) rfl) (Nat.le_of_ble_eq_true rfl) (fun _ _ hq9 => E_fgo ?_ hq9)
  show E _ _ 37 [.ref 38, .int (nI x), .int (nI m), .int 0, .null, .null, .null] [] (hov hp [(38, .inr (7, [.ref 39, .ref 40, .int (sbu s), .int (nI q), .ref 41, .int (nI n), .ref 42, .int 0, .int (-6), .int (-6), .int fr, .int rs, .int ac, .ref 43, .ref 44, .ref 45, .ref 46, .ref 47, .ref 48, .ref 49])), (39, .inl (false, 22, (bkF s))), (40, .inl (false, 22, (bkF s)))]) _
  refine E_iload_n dX7_year_37 rfl ?_
  refine E_istore (l2 := [.ref 38, .int (nI x), .int (nI m), .int 0, .int (nI x), .null, .null]) dX7_year_38 (by decide) rfl ?_
  refine E_iconst (v := 0) dX7_year_40 (by decide) ?_
  refine E_istore (l2 := [.ref 38, .int (nI x), .int (nI m), .int 0, .int (nI x), .int 0, .null]) dX7_year_41 (by decide) rfl ?_
  exact L 0 (Nat.zero_le _) _ _ _ _

set_option maxHeartbeats 4000000 in
set_option maxRecDepth 20000 in
theorem m_year_1 (d : Nat) (fl fa fw fr rs ac : Int32) (q n : Nat) (s t : CS) (hs : OkS s) (x m : Nat) (hx : x < 10000) (hm : m < 100) (h0 : inI (nI x) 0 9999 = true) (h1 : inI (nI m) 1 99 = true) : FR YX7_year (d + 4) [.ref 38, .int (nI x), .int (nI m), .int 1, .null, .null, .null] [(38, .inr (7, [.ref 39, .ref 40, .int (sbu s), .int (nI q), .ref 41, .int (nI n), .ref 42, .int fl, .int fa, .int fw, .int fr, .int rs, .int ac, .ref 43, .ref 44, .ref 45, .ref 46, .ref 47, .ref 48, .ref 49])), (39, .inl (false, 22, (bkF s))), (40, .inl (false, 22, (bkF t)))] (fun v M => ∃ fl' fr' rs' : Int32, M = [(38, .inr (7, [.ref 39, .ref 40, .int (sbu s), .int (nI q), .ref 41, .int (nI n), .ref 42, .int fl', .int (-6), .int (-6), .int fr', .int rs', .int ac, .ref 43, .ref 44, .ref 45, .ref 46, .ref 47, .ref 48, .ref 49])), (39, .inl (false, 22, (bkF s))), (40, .inl (false, 22, (bkF ((yr s x m).1))))] ∧ v = some (.int (bcI (sdr (yr s x m).1)))) := by
  intro hp
  have LS : ∀ i, i ≤ 6 → ∀ (e4 : Int32) (fl fr rs : Int32), E YX7_year (d + 4) 207 [.ref 38, .int (nI x), .int (nI m), .int 1, .int e4, .int (sumN (she (yr s x m).1) i), .int (nI i)] [] (hov hp [(38, .inr (7, [.ref 39, .ref 40, .int (sbu s), .int (nI q), .ref 41, .int (nI n), .ref 42, .int fl, .int (-6), .int (-6), .int fr, .int rs, .int ac, .ref 43, .ref 44, .ref 45, .ref 46, .ref 47, .ref 48, .ref 49])), (39, .inl (false, 22, (bkF s))), (40, .inl (false, 22, (bkF ((yr s x m).1))))]) (fun v h' => ∃ M, h' = hov hp M ∧ (fun v M => ∃ fl' fr' rs' : Int32, M = [(38, .inr (7, [.ref 39, .ref 40, .int (sbu s), .int (nI q), .ref 41, .int (nI n), .ref 42, .int fl', .int (-6), .int (-6), .int fr', .int rs', .int ac, .ref 43, .ref 44, .ref 45, .ref 46, .ref 47, .ref 48, .ref 49])), (39, .inl (false, 22, (bkF s))), (40, .inl (false, 22, (bkF ((yr s x m).1))))] ∧ v = some (.int (bcI (sdr (yr s x m).1)))) v M) := by
    refine down 6 ?_ ?_
    · intro e4 fl fr rs
      refine E_iload dX7_year_207 rfl ?_
      refine E_bipush (v := 6) dX7_year_209 (by decide) ?_
      refine E_icmp_ge (tgt := 232) dX7_year_211 (by decide) (fun _ => ?_) (fun c => absurd (by decide) c)
      refine E_iload_n dX7_year_232 rfl ?_
      refine E_if_ne (tgt := 249) dX7_year_233 (by decide) (fun _ => ?_) (fun c => by first | exact absurd c (by decide) | exact absurd (by decide) c)
      refine E_iload_n dX7_year_249 rfl ?_
      refine E_iconst (v := 1) dX7_year_250 (by decide) ?_
      refine E_icmp_ne (tgt := 267) dX7_year_251 (by decide) (fun c => by first | exact absurd c (by decide) | exact absurd (by decide) c) (fun _ => ?_)
      refine E_aload_n dX7_year_254 rfl ?_
      refine E_get dX7_year_255 fX7_13 (by decide) rfl rfl ?_
      refine E_bipush (v := 20) dX7_year_258 (by decide) ?_
      refine E_ialdN (j := 20) dX7_year_260 (by decide) rfl (by decide) (by decide) ?_
      refine E_eqi (y := sdr (yr s x m).1) rfl ?_
      refine E_callS (As := [.int (sdr (yr s x m).1)]) (l' := [.int (sdr (yr s x m).1), .null, .null]) (st := []) dX7_year_261 kX7_56 sX7_bits MX7_bits rfl rfl (Nat.le_of_ble_eq_true rfl) (FC.use (c_bits (d + 3) _) rfl (L2 := [(38, .inr (7, [.ref 39, .ref 40, .int (sbu s), .int (nI q), .ref 41, .int (nI n), .ref 42, .int fl, .int (-6), .int (-6), .int fr, .int rs, .int ac, .ref 43, .ref 44, .ref 45, .ref 46, .ref 47, .ref 48, .ref 49])), (39, .inl (false, 22, (bkF s))), (40, .inl (false, 22, (bkF ((yr s x m).1))))]) rfl) (Nat.le_of_ble_eq_true rfl) (fun _ _ hq9 => E_fgo ?_ hq9)
      show E _ _ 264 [.ref 38, .int (nI x), .int (nI m), .int 1, .int e4, .int (sumN (she (yr s x m).1) 6), .int (nI 6)] [.int (bitN (sdr (yr s x m).1) 8)] (hov hp [(38, .inr (7, [.ref 39, .ref 40, .int (sbu s), .int (nI q), .ref 41, .int (nI n), .ref 42, .int fl, .int (-6), .int (-6), .int fr, .int rs, .int ac, .ref 43, .ref 44, .ref 45, .ref 46, .ref 47, .ref 48, .ref 49])), (39, .inl (false, 22, (bkF s))), (40, .inl (false, 22, (bkF ((yr s x m).1))))]) _
      refine E_eqi (y := bcI (sdr (yr s x m).1)) (bits_of (yr_ok hs x m).1.2.2.2.2.1) ?_
      refine E_goto (tgt := 269) dX7_year_264 (by decide) ?_
      exact E_iret (st := []) dX7_year_269 rfl rfl ⟨_, rfl, fl, fr, rs, rfl, rfl⟩
    · intro i hi ih e4 fl fr rs
      generalize (yr s x m).1 = Z at ih ⊢
      refine E_iload dX7_year_207 rfl ?_
      refine E_bipush (v := 6) dX7_year_209 (by decide) ?_
      refine E_icmp_ge (tgt := 232) dX7_year_211 (by decide) (fun c => absurd c (cI_nle (n := 6) rfl hi (by decide))) (fun _ => ?_)
      refine E_iload dX7_year_214 rfl ?_
      refine E_aload_n dX7_year_216 rfl ?_
      refine E_get dX7_year_217 fX7_13 (by decide) rfl rfl ?_
      refine E_iload dX7_year_220 rfl ?_
      refine E_ialdN (j := i) dX7_year_222 (by decide) rfl (by omega) (by decide) ?_
      refine E_eqi (y := she Z i) (bk_h hi) ?_
      refine E_iadd dX7_year_223 ?_
      refine E_istore (l2 := [.ref 38, .int (nI x), .int (nI m), .int 1, .int e4, .int ((sumN (she Z) i) + (she Z i)), .int (nI i)]) dX7_year_224 (by decide) rfl ?_
      refine E_iinc (y := nI (i + 1)) (l2 := [.ref 38, .int (nI x), .int (nI m), .int 1, .int e4, .int ((sumN (she Z) i) + (she Z i)), .int (nI (i + 1))]) dX7_year_226 rfl (nI_1 _) (by decide) rfl ?_
      refine E_goto (tgt := 207) dX7_year_229 (by decide) ?_
      exact ih _ _ _ _
  have L : ∀ i, i ≤ m → ∀ (l6 : Value) (fl fr rs : Int32), E YX7_year (d + 4) 43 [.ref 38, .int (nI x), .int (nI m), .int 1, .int (nI ((yr s x i).2)), .int (nI i), l6] [] (hov hp [(38, .inr (7, [.ref 39, .ref 40, .int (sbu s), .int (nI q), .ref 41, .int (nI n), .ref 42, .int fl, .int (-6), .int (-6), .int fr, .int rs, .int ac, .ref 43, .ref 44, .ref 45, .ref 46, .ref 47, .ref 48, .ref 49])), (39, .inl (false, 22, (bkF s))), (40, .inl (false, 22, (bkF ((yr s x i).1))))]) (fun v h' => ∃ M, h' = hov hp M ∧ (fun v M => ∃ fl' fr' rs' : Int32, M = [(38, .inr (7, [.ref 39, .ref 40, .int (sbu s), .int (nI q), .ref 41, .int (nI n), .ref 42, .int fl', .int (-6), .int (-6), .int fr', .int rs', .int ac, .ref 43, .ref 44, .ref 45, .ref 46, .ref 47, .ref 48, .ref 49])), (39, .inl (false, 22, (bkF s))), (40, .inl (false, 22, (bkF ((yr s x m).1))))] ∧ v = some (.int (bcI (sdr (yr s x m).1)))) v M) := by
    refine down m ?_ ?_
    · intro l6 fl fr rs
      refine E_iload dX7_year_43 rfl ?_
      refine E_iload_n dX7_year_45 rfl ?_
      refine E_icmp_ge (tgt := 201) dX7_year_46 (by decide) (fun _ => ?_) (fun c => absurd (nI_le (Nat.le_refl _) (by omega)) c)
      refine E_iconst (v := 0) dX7_year_201 (by decide) ?_
      refine E_istore (l2 := [.ref 38, .int (nI x), .int (nI m), .int 1, .int (nI ((yr s x m).2)), .int 0, l6]) dX7_year_202 (by decide) rfl ?_
      refine E_iconst (v := 0) dX7_year_204 (by decide) ?_
      refine E_istore (l2 := [.ref 38, .int (nI x), .int (nI m), .int 1, .int (nI ((yr s x m).2)), .int 0, .int 0]) dX7_year_205 (by decide) rfl ?_
      exact LS 0 (by decide) _ _ _ _
    · intro i hi ih l6 fl fr rs
      have hX := yr_lt (s := s) (seed := x) (by omega) i
      have hOK := yr_ok hs x i
      have hY : yX (yr s x i).2 < 65537 := Nat.mod_lt _ (by decide)
      generalize hy : yX (yr s x i).2 = y at hY
      have eS : (yr s x (i + 1)).1 = yN (yr s x i).1 y := by rw [← hy]; rfl
      have eX : (yr s x (i + 1)).2 = y := by rw [← hy]; rfl
      rw [eS, eX] at ih
      generalize (yr s x i).1 = z at ih hOK ⊢
      obtain ⟨hz, hbz⟩ := hOK
      have hk : y / 6 % 8 = 0 ∨ y / 6 % 8 = 1 ∨ y / 6 % 8 = 2 ∨ y / 6 % 8 = 3 ∨ y / 6 % 8 = 4 ∨ 5 ≤ y / 6 % 8 := by omega
      rcases hk with hk | hk | hk | hk | hk | hk
      · refine E_iload dX7_year_43 rfl ?_
        refine E_iload_n dX7_year_45 rfl ?_
        refine E_icmp_ge (tgt := 201) dX7_year_46 (by decide) (fun c => absurd c (nI_ge hi (by omega))) (fun _ => ?_)
        refine E_bipush (v := 75) dX7_year_49 (by decide) ?_
        refine E_iload dX7_year_51 rfl ?_
        refine E_imul dX7_year_53 ?_
        refine E_bipush (v := 74) dX7_year_54 (by decide) ?_
        refine E_iadd dX7_year_56 ?_
        refine E_ldc dX7_year_57 qX7_151 ?_
        refine E_irem dX7_year_59 (by decide) ?_
        refine E_eqi (y := nI y) (by rw [← hy]; exact yX_m hX) ?_
        refine E_istore (l2 := [.ref 38, .int (nI x), .int (nI m), .int 1, .int (nI y), .int (nI i), l6]) dX7_year_60 (by decide) rfl ?_
        refine E_iload dX7_year_62 rfl ?_
        refine E_bipush (v := 6) dX7_year_64 (by decide) ?_
        refine E_irem dX7_year_66 (by decide) ?_
        refine E_eqi (y := nI (y % 6)) (nI_r (by omega) (by decide) (by decide)) ?_
        refine E_istore (l2 := [.ref 38, .int (nI x), .int (nI m), .int 1, .int (nI y), .int (nI i), .int (nI (y % 6))]) dX7_year_67 (by decide) rfl ?_
        refine E_iload dX7_year_69 rfl ?_
        refine E_bipush (v := 6) dX7_year_71 (by decide) ?_
        refine E_idiv dX7_year_73 (by decide) ?_
        refine E_eqi (y := nI (y / 6)) (nI_d (by omega) (by decide) (by decide)) ?_
        refine E_bipush (v := 8) dX7_year_74 (by decide) ?_
        refine E_irem dX7_year_76 (by decide) ?_
        refine E_eqi (y := nI (y / 6 % 8)) (nI_r (by omega) (by decide) (by decide)) ?_
        refine E_eqi (y := 0) (by rw [hk]; rfl) ?_
        refine E_tableIn (off := 35) (tgt := 112) dX7_year_77 (by decide) (by decide) (by decide) (by decide) ?_
        refine E_aload_n dX7_year_112 rfl ?_
        refine E_aload_n dX7_year_113 rfl ?_
        refine E_iload dX7_year_114 rfl ?_
        refine E_iload dX7_year_116 rfl ?_
        refine E_bipush (v := 48) dX7_year_118 (by decide) ?_
        refine E_idiv dX7_year_120 (by decide) ?_
        refine E_eqi (y := nI (y / 48)) (nI_d (by omega) (by decide) (by decide)) ?_
        refine E_bipush (v := 25) dX7_year_121 (by decide) ?_
        refine E_irem dX7_year_123 (by decide) ?_
        refine E_eqi (y := nI (y / 48 % 25)) (nI_r (by omega) (by decide) (by decide)) ?_
        refine E_callV (As := [.int (nI (y % 6)), .int (nI (y / 48 % 25))]) (l' := [.ref 38, .int (nI (y % 6)), .int (nI (y / 48 % 25)), .null]) (st := [.ref 38]) dX7_year_124 kX7_114 iX7_stack vX7_stack (by decide) rfl rfl MX7_stack rfl rfl (Nat.le_of_ble_eq_true rfl) (FC.use (m_stack (d + 3) (sbu s) fl (-6) (-6) fr rs ac q n z (y % 6) (by omega) (nI (y / 48 % 25))) rfl (L2 := [(38, .inr (7, [.ref 39, .ref 40, .int (sbu s), .int (nI q), .ref 41, .int (nI n), .ref 42, .int fl, .int (-6), .int (-6), .int fr, .int rs, .int ac, .ref 43, .ref 44, .ref 45, .ref 46, .ref 47, .ref 48, .ref 49])), (39, .inl (false, 22, (bkF s))), (40, .inl (false, 22, (bkF (nxS z 0 (y % 6) (nI (y / 48 % 25))))))]) rfl) (Nat.le_of_ble_eq_true rfl) (fun _ _ hq9 => E_fgo ?_ hq9)
        show E _ _ 127 [.ref 38, .int (nI x), .int (nI m), .int 1, .int (nI y), .int (nI i), .int (nI (y % 6))] [.int (rsn z 0 (y % 6) (nI (y / 48 % 25))), .ref 38] (hov hp [(38, .inr (7, [.ref 39, .ref 40, .int (sbu s), .int (nI q), .ref 41, .int (nI n), .ref 42, .int fl, .int (-6), .int (-6), .int fr, .int rs, .int ac, .ref 43, .ref 44, .ref 45, .ref 46, .ref 47, .ref 48, .ref 49])), (39, .inl (false, 22, (bkF s))), (40, .inl (false, 22, (bkF (nxS z 0 (y % 6) (nI (y / 48 % 25))))))]) _
        refine E_puti (fs2 := [.ref 39, .ref 40, .int (sbu s), .int (nI q), .ref 41, .int (nI n), .ref 42, .int fl, .int (-6), .int (-6), .int fr, .int (rsn z 0 (y % 6) (nI (y / 48 % 25))), .int ac, .ref 43, .ref 44, .ref 45, .ref 46, .ref 47, .ref 48, .ref 49]) (L2 := [(38, .inr (7, [.ref 39, .ref 40, .int (sbu s), .int (nI q), .ref 41, .int (nI n), .ref 42, .int fl, .int (-6), .int (-6), .int fr, .int (rsn z 0 (y % 6) (nI (y / 48 % 25))), .int ac, .ref 43, .ref 44, .ref 45, .ref 46, .ref 47, .ref 48, .ref 49])), (39, .inl (false, 22, (bkF s))), (40, .inl (false, 22, (bkF (nxS z 0 (y % 6) (nI (y / 48 % 25))))))]) dX7_year_127 fX7_102 fpX7_11 (by decide) rfl (Nat.le_of_ble_eq_true rfl) rfl rfl ?_
        refine E_goto (tgt := 195) dX7_year_130 (by decide) ?_
        refine E_iinc (y := nI (i + 1)) (l2 := [.ref 38, .int (nI x), .int (nI m), .int 1, .int (nI y), .int (nI (i + 1)), .int (nI (y % 6))]) dX7_year_195 rfl (nI_1 _) (by decide) rfl ?_
        refine E_goto (tgt := 43) dX7_year_198 (by decide) ?_
        have e9 := ih (.int (nI (y % 6))) fl fr (rsn z 0 (y % 6) (nI (y / 48 % 25)))
        rw [yN_x, show yK y = 0 from (by rw [yK, hk]; rfl)] at e9
        exact e9
      · refine E_iload dX7_year_43 rfl ?_
        refine E_iload_n dX7_year_45 rfl ?_
        refine E_icmp_ge (tgt := 201) dX7_year_46 (by decide) (fun c => absurd c (nI_ge hi (by omega))) (fun _ => ?_)
        refine E_bipush (v := 75) dX7_year_49 (by decide) ?_
        refine E_iload dX7_year_51 rfl ?_
        refine E_imul dX7_year_53 ?_
        refine E_bipush (v := 74) dX7_year_54 (by decide) ?_
        refine E_iadd dX7_year_56 ?_
        refine E_ldc dX7_year_57 qX7_151 ?_
        refine E_irem dX7_year_59 (by decide) ?_
        refine E_eqi (y := nI y) (by rw [← hy]; exact yX_m hX) ?_
        refine E_istore (l2 := [.ref 38, .int (nI x), .int (nI m), .int 1, .int (nI y), .int (nI i), l6]) dX7_year_60 (by decide) rfl ?_
        refine E_iload dX7_year_62 rfl ?_
        refine E_bipush (v := 6) dX7_year_64 (by decide) ?_
        refine E_irem dX7_year_66 (by decide) ?_
        refine E_eqi (y := nI (y % 6)) (nI_r (by omega) (by decide) (by decide)) ?_
        refine E_istore (l2 := [.ref 38, .int (nI x), .int (nI m), .int 1, .int (nI y), .int (nI i), .int (nI (y % 6))]) dX7_year_67 (by decide) rfl ?_
        refine E_iload dX7_year_69 rfl ?_
        refine E_bipush (v := 6) dX7_year_71 (by decide) ?_
        refine E_idiv dX7_year_73 (by decide) ?_
        refine E_eqi (y := nI (y / 6)) (nI_d (by omega) (by decide) (by decide)) ?_
        refine E_bipush (v := 8) dX7_year_74 (by decide) ?_
        refine E_irem dX7_year_76 (by decide) ?_
        refine E_eqi (y := nI (y / 6 % 8)) (nI_r (by omega) (by decide) (by decide)) ?_
        refine E_eqi (y := 1) (by rw [hk]; rfl) ?_
        refine E_tableIn (off := 56) (tgt := 133) dX7_year_77 (by decide) (by decide) (by decide) (by decide) ?_
        refine E_aload_n dX7_year_133 rfl ?_
        refine E_aload_n dX7_year_134 rfl ?_
        refine E_iload dX7_year_135 rfl ?_
        refine E_iconst (v := 1) dX7_year_137 (by decide) ?_
        refine E_callV (As := [.int (nI (y % 6)), .int 1]) (l' := [.ref 38, .int (nI (y % 6)), .int 1]) (st := [.ref 38]) dX7_year_138 kX7_105 iX7_turf vX7_turf (by decide) rfl rfl MX7_turf rfl rfl (Nat.le_of_ble_eq_true rfl) (FC.use (m_turf1 (d + 2) (sbu s) fl (-6) (-6) fr rs ac q n z hz (y % 6) (by omega)) rfl (L2 := [(38, .inr (7, [.ref 39, .ref 40, .int (sbu s), .int (nI q), .ref 41, .int (nI n), .ref 42, .int fl, .int (-6), .int (-6), .int fr, .int rs, .int ac, .ref 43, .ref 44, .ref 45, .ref 46, .ref 47, .ref 48, .ref 49])), (39, .inl (false, 22, (bkF s))), (40, .inl (false, 22, (bkF (nxS z 1 (y % 6) 0))))]) rfl) (Nat.le_of_ble_eq_true rfl) (fun _ _ hq9 => E_fgo ?_ hq9)
        show E _ _ 141 [.ref 38, .int (nI x), .int (nI m), .int 1, .int (nI y), .int (nI i), .int (nI (y % 6))] [.int (rsn z 1 (y % 6) 0), .ref 38] (hov hp [(38, .inr (7, [.ref 39, .ref 40, .int (sbu s), .int (nI q), .ref 41, .int (nI n), .ref 42, .int fl, .int (-6), .int (-6), .int fr, .int rs, .int ac, .ref 43, .ref 44, .ref 45, .ref 46, .ref 47, .ref 48, .ref 49])), (39, .inl (false, 22, (bkF s))), (40, .inl (false, 22, (bkF (nxS z 1 (y % 6) 0))))]) _
        refine E_puti (fs2 := [.ref 39, .ref 40, .int (sbu s), .int (nI q), .ref 41, .int (nI n), .ref 42, .int fl, .int (-6), .int (-6), .int fr, .int (rsn z 1 (y % 6) 0), .int ac, .ref 43, .ref 44, .ref 45, .ref 46, .ref 47, .ref 48, .ref 49]) (L2 := [(38, .inr (7, [.ref 39, .ref 40, .int (sbu s), .int (nI q), .ref 41, .int (nI n), .ref 42, .int fl, .int (-6), .int (-6), .int fr, .int (rsn z 1 (y % 6) 0), .int ac, .ref 43, .ref 44, .ref 45, .ref 46, .ref 47, .ref 48, .ref 49])), (39, .inl (false, 22, (bkF s))), (40, .inl (false, 22, (bkF (nxS z 1 (y % 6) 0))))]) dX7_year_141 fX7_102 fpX7_11 (by decide) rfl (Nat.le_of_ble_eq_true rfl) rfl rfl ?_
        refine E_goto (tgt := 195) dX7_year_144 (by decide) ?_
        refine E_iinc (y := nI (i + 1)) (l2 := [.ref 38, .int (nI x), .int (nI m), .int 1, .int (nI y), .int (nI (i + 1)), .int (nI (y % 6))]) dX7_year_195 rfl (nI_1 _) (by decide) rfl ?_
        refine E_goto (tgt := 43) dX7_year_198 (by decide) ?_
        have e9 := ih (.int (nI (y % 6))) fl fr (rsn z 1 (y % 6) 0)
        rw [yN_x, show yK y = 1 from (by rw [yK, hk]; rfl)] at e9
        exact e9
      · refine E_iload dX7_year_43 rfl ?_
        refine E_iload_n dX7_year_45 rfl ?_
        refine E_icmp_ge (tgt := 201) dX7_year_46 (by decide) (fun c => absurd c (nI_ge hi (by omega))) (fun _ => ?_)
        refine E_bipush (v := 75) dX7_year_49 (by decide) ?_
        refine E_iload dX7_year_51 rfl ?_
        refine E_imul dX7_year_53 ?_
        refine E_bipush (v := 74) dX7_year_54 (by decide) ?_
        refine E_iadd dX7_year_56 ?_
        refine E_ldc dX7_year_57 qX7_151 ?_
        refine E_irem dX7_year_59 (by decide) ?_
        refine E_eqi (y := nI y) (by rw [← hy]; exact yX_m hX) ?_
        refine E_istore (l2 := [.ref 38, .int (nI x), .int (nI m), .int 1, .int (nI y), .int (nI i), l6]) dX7_year_60 (by decide) rfl ?_
        refine E_iload dX7_year_62 rfl ?_
        refine E_bipush (v := 6) dX7_year_64 (by decide) ?_
        refine E_irem dX7_year_66 (by decide) ?_
        refine E_eqi (y := nI (y % 6)) (nI_r (by omega) (by decide) (by decide)) ?_
        refine E_istore (l2 := [.ref 38, .int (nI x), .int (nI m), .int 1, .int (nI y), .int (nI i), .int (nI (y % 6))]) dX7_year_67 (by decide) rfl ?_
        refine E_iload dX7_year_69 rfl ?_
        refine E_bipush (v := 6) dX7_year_71 (by decide) ?_
        refine E_idiv dX7_year_73 (by decide) ?_
        refine E_eqi (y := nI (y / 6)) (nI_d (by omega) (by decide) (by decide)) ?_
        refine E_bipush (v := 8) dX7_year_74 (by decide) ?_
        refine E_irem dX7_year_76 (by decide) ?_
        refine E_eqi (y := nI (y / 6 % 8)) (nI_r (by omega) (by decide) (by decide)) ?_
        refine E_eqi (y := 2) (by rw [hk]; rfl) ?_
        refine E_tableIn (off := 70) (tgt := 147) dX7_year_77 (by decide) (by decide) (by decide) (by decide) ?_
        refine E_aload_n dX7_year_147 rfl ?_
        refine E_aload_n dX7_year_148 rfl ?_
        refine E_iload dX7_year_149 rfl ?_
        refine E_iconst (v := (-1)) dX7_year_151 (by decide) ?_
        refine E_callV (As := [.int (nI (y % 6)), .int (-1)]) (l' := [.ref 38, .int (nI (y % 6)), .int (-1)]) (st := [.ref 38]) dX7_year_152 kX7_105 iX7_turf vX7_turf (by decide) rfl rfl MX7_turf rfl rfl (Nat.le_of_ble_eq_true rfl) (FC.use (m_turf2 (d + 2) (sbu s) fl (-6) (-6) fr rs ac q n z hz (y % 6) (by omega)) rfl (L2 := [(38, .inr (7, [.ref 39, .ref 40, .int (sbu s), .int (nI q), .ref 41, .int (nI n), .ref 42, .int fl, .int (-6), .int (-6), .int fr, .int rs, .int ac, .ref 43, .ref 44, .ref 45, .ref 46, .ref 47, .ref 48, .ref 49])), (39, .inl (false, 22, (bkF s))), (40, .inl (false, 22, (bkF (nxS z 2 (y % 6) 0))))]) rfl) (Nat.le_of_ble_eq_true rfl) (fun _ _ hq9 => E_fgo ?_ hq9)
        show E _ _ 155 [.ref 38, .int (nI x), .int (nI m), .int 1, .int (nI y), .int (nI i), .int (nI (y % 6))] [.int (rsn z 2 (y % 6) 0), .ref 38] (hov hp [(38, .inr (7, [.ref 39, .ref 40, .int (sbu s), .int (nI q), .ref 41, .int (nI n), .ref 42, .int fl, .int (-6), .int (-6), .int fr, .int rs, .int ac, .ref 43, .ref 44, .ref 45, .ref 46, .ref 47, .ref 48, .ref 49])), (39, .inl (false, 22, (bkF s))), (40, .inl (false, 22, (bkF (nxS z 2 (y % 6) 0))))]) _
        refine E_puti (fs2 := [.ref 39, .ref 40, .int (sbu s), .int (nI q), .ref 41, .int (nI n), .ref 42, .int fl, .int (-6), .int (-6), .int fr, .int (rsn z 2 (y % 6) 0), .int ac, .ref 43, .ref 44, .ref 45, .ref 46, .ref 47, .ref 48, .ref 49]) (L2 := [(38, .inr (7, [.ref 39, .ref 40, .int (sbu s), .int (nI q), .ref 41, .int (nI n), .ref 42, .int fl, .int (-6), .int (-6), .int fr, .int (rsn z 2 (y % 6) 0), .int ac, .ref 43, .ref 44, .ref 45, .ref 46, .ref 47, .ref 48, .ref 49])), (39, .inl (false, 22, (bkF s))), (40, .inl (false, 22, (bkF (nxS z 2 (y % 6) 0))))]) dX7_year_155 fX7_102 fpX7_11 (by decide) rfl (Nat.le_of_ble_eq_true rfl) rfl rfl ?_
        refine E_goto (tgt := 195) dX7_year_158 (by decide) ?_
        refine E_iinc (y := nI (i + 1)) (l2 := [.ref 38, .int (nI x), .int (nI m), .int 1, .int (nI y), .int (nI (i + 1)), .int (nI (y % 6))]) dX7_year_195 rfl (nI_1 _) (by decide) rfl ?_
        refine E_goto (tgt := 43) dX7_year_198 (by decide) ?_
        have e9 := ih (.int (nI (y % 6))) fl fr (rsn z 2 (y % 6) 0)
        rw [yN_x, show yK y = 2 from (by rw [yK, hk]; rfl)] at e9
        exact e9
      · refine E_iload dX7_year_43 rfl ?_
        refine E_iload_n dX7_year_45 rfl ?_
        refine E_icmp_ge (tgt := 201) dX7_year_46 (by decide) (fun c => absurd c (nI_ge hi (by omega))) (fun _ => ?_)
        refine E_bipush (v := 75) dX7_year_49 (by decide) ?_
        refine E_iload dX7_year_51 rfl ?_
        refine E_imul dX7_year_53 ?_
        refine E_bipush (v := 74) dX7_year_54 (by decide) ?_
        refine E_iadd dX7_year_56 ?_
        refine E_ldc dX7_year_57 qX7_151 ?_
        refine E_irem dX7_year_59 (by decide) ?_
        refine E_eqi (y := nI y) (by rw [← hy]; exact yX_m hX) ?_
        refine E_istore (l2 := [.ref 38, .int (nI x), .int (nI m), .int 1, .int (nI y), .int (nI i), l6]) dX7_year_60 (by decide) rfl ?_
        refine E_iload dX7_year_62 rfl ?_
        refine E_bipush (v := 6) dX7_year_64 (by decide) ?_
        refine E_irem dX7_year_66 (by decide) ?_
        refine E_eqi (y := nI (y % 6)) (nI_r (by omega) (by decide) (by decide)) ?_
        refine E_istore (l2 := [.ref 38, .int (nI x), .int (nI m), .int 1, .int (nI y), .int (nI i), .int (nI (y % 6))]) dX7_year_67 (by decide) rfl ?_
        refine E_iload dX7_year_69 rfl ?_
        refine E_bipush (v := 6) dX7_year_71 (by decide) ?_
        refine E_idiv dX7_year_73 (by decide) ?_
        refine E_eqi (y := nI (y / 6)) (nI_d (by omega) (by decide) (by decide)) ?_
        refine E_bipush (v := 8) dX7_year_74 (by decide) ?_
        refine E_irem dX7_year_76 (by decide) ?_
        refine E_eqi (y := nI (y / 6 % 8)) (nI_r (by omega) (by decide) (by decide)) ?_
        refine E_eqi (y := 3) (by rw [hk]; rfl) ?_
        refine E_tableIn (off := 84) (tgt := 161) dX7_year_77 (by decide) (by decide) (by decide) (by decide) ?_
        refine E_aload_n dX7_year_161 rfl ?_
        refine E_aload_n dX7_year_162 rfl ?_
        refine E_iload dX7_year_163 rfl ?_
        refine E_callV (As := [.int (nI (y % 6))]) (l' := [.ref 38, .int (nI (y % 6))]) (st := [.ref 38]) dX7_year_165 kX7_108 iX7_kindle vX7_kindle (by decide) rfl rfl MX7_kindle rfl rfl (Nat.le_of_ble_eq_true rfl) (FC.use (m_kindle (d + 2) (sbu s) fl (-6) (-6) fr rs ac q n z hz (y % 6) (by omega)) rfl (L2 := [(38, .inr (7, [.ref 39, .ref 40, .int (sbu s), .int (nI q), .ref 41, .int (nI n), .ref 42, .int fl, .int (-6), .int (-6), .int fr, .int rs, .int ac, .ref 43, .ref 44, .ref 45, .ref 46, .ref 47, .ref 48, .ref 49])), (39, .inl (false, 22, (bkF s))), (40, .inl (false, 22, (bkF (nxS z 3 (y % 6) 0))))]) rfl) (Nat.le_of_ble_eq_true rfl) (fun _ _ hq9 => E_fgo ?_ hq9)
        show E _ _ 168 [.ref 38, .int (nI x), .int (nI m), .int 1, .int (nI y), .int (nI i), .int (nI (y % 6))] [.int (rsn z 3 (y % 6) 0), .ref 38] (hov hp [(38, .inr (7, [.ref 39, .ref 40, .int (sbu s), .int (nI q), .ref 41, .int (nI n), .ref 42, .int fl, .int (-6), .int (-6), .int fr, .int rs, .int ac, .ref 43, .ref 44, .ref 45, .ref 46, .ref 47, .ref 48, .ref 49])), (39, .inl (false, 22, (bkF s))), (40, .inl (false, 22, (bkF (nxS z 3 (y % 6) 0))))]) _
        refine E_puti (fs2 := [.ref 39, .ref 40, .int (sbu s), .int (nI q), .ref 41, .int (nI n), .ref 42, .int fl, .int (-6), .int (-6), .int fr, .int (rsn z 3 (y % 6) 0), .int ac, .ref 43, .ref 44, .ref 45, .ref 46, .ref 47, .ref 48, .ref 49]) (L2 := [(38, .inr (7, [.ref 39, .ref 40, .int (sbu s), .int (nI q), .ref 41, .int (nI n), .ref 42, .int fl, .int (-6), .int (-6), .int fr, .int (rsn z 3 (y % 6) 0), .int ac, .ref 43, .ref 44, .ref 45, .ref 46, .ref 47, .ref 48, .ref 49])), (39, .inl (false, 22, (bkF s))), (40, .inl (false, 22, (bkF (nxS z 3 (y % 6) 0))))]) dX7_year_168 fX7_102 fpX7_11 (by decide) rfl (Nat.le_of_ble_eq_true rfl) rfl rfl ?_
        refine E_goto (tgt := 195) dX7_year_171 (by decide) ?_
        refine E_iinc (y := nI (i + 1)) (l2 := [.ref 38, .int (nI x), .int (nI m), .int 1, .int (nI y), .int (nI (i + 1)), .int (nI (y % 6))]) dX7_year_195 rfl (nI_1 _) (by decide) rfl ?_
        refine E_goto (tgt := 43) dX7_year_198 (by decide) ?_
        have e9 := ih (.int (nI (y % 6))) fl fr (rsn z 3 (y % 6) 0)
        rw [yN_x, show yK y = 3 from (by rw [yK, hk]; rfl)] at e9
        exact e9
      · refine E_iload dX7_year_43 rfl ?_
        refine E_iload_n dX7_year_45 rfl ?_
        refine E_icmp_ge (tgt := 201) dX7_year_46 (by decide) (fun c => absurd c (nI_ge hi (by omega))) (fun _ => ?_)
        refine E_bipush (v := 75) dX7_year_49 (by decide) ?_
        refine E_iload dX7_year_51 rfl ?_
        refine E_imul dX7_year_53 ?_
        refine E_bipush (v := 74) dX7_year_54 (by decide) ?_
        refine E_iadd dX7_year_56 ?_
        refine E_ldc dX7_year_57 qX7_151 ?_
        refine E_irem dX7_year_59 (by decide) ?_
        refine E_eqi (y := nI y) (by rw [← hy]; exact yX_m hX) ?_
        refine E_istore (l2 := [.ref 38, .int (nI x), .int (nI m), .int 1, .int (nI y), .int (nI i), l6]) dX7_year_60 (by decide) rfl ?_
        refine E_iload dX7_year_62 rfl ?_
        refine E_bipush (v := 6) dX7_year_64 (by decide) ?_
        refine E_irem dX7_year_66 (by decide) ?_
        refine E_eqi (y := nI (y % 6)) (nI_r (by omega) (by decide) (by decide)) ?_
        refine E_istore (l2 := [.ref 38, .int (nI x), .int (nI m), .int 1, .int (nI y), .int (nI i), .int (nI (y % 6))]) dX7_year_67 (by decide) rfl ?_
        refine E_iload dX7_year_69 rfl ?_
        refine E_bipush (v := 6) dX7_year_71 (by decide) ?_
        refine E_idiv dX7_year_73 (by decide) ?_
        refine E_eqi (y := nI (y / 6)) (nI_d (by omega) (by decide) (by decide)) ?_
        refine E_bipush (v := 8) dX7_year_74 (by decide) ?_
        refine E_irem dX7_year_76 (by decide) ?_
        refine E_eqi (y := nI (y / 6 % 8)) (nI_r (by omega) (by decide) (by decide)) ?_
        refine E_eqi (y := 4) (by rw [hk]; rfl) ?_
        refine E_tableIn (off := 97) (tgt := 174) dX7_year_77 (by decide) (by decide) (by decide) (by decide) ?_
        refine E_aload_n dX7_year_174 rfl ?_
        refine E_aload_n dX7_year_175 rfl ?_
        refine E_iload dX7_year_176 rfl ?_
        refine E_callV (As := [.int (nI (y % 6))]) (l' := [.ref 38, .int (nI (y % 6))]) (st := [.ref 38]) dX7_year_178 kX7_111 iX7_watch vX7_watch (by decide) rfl rfl MX7_watch rfl rfl (Nat.le_of_ble_eq_true rfl) (FC.use (m_watch (d + 2) (sbu s) fl (-6) (-6) fr rs ac q n z hz (y % 6) (by omega) hbz.symm) rfl (L2 := [(38, .inr (7, [.ref 39, .ref 40, .int (sbu s), .int (nI q), .ref 41, .int (nI n), .ref 42, .int fl, .int (-6), .int (-6), .int fr, .int rs, .int ac, .ref 43, .ref 44, .ref 45, .ref 46, .ref 47, .ref 48, .ref 49])), (39, .inl (false, 22, (bkF s))), (40, .inl (false, 22, (bkF (nxS z 4 (y % 6) 0))))]) rfl) (Nat.le_of_ble_eq_true rfl) (fun _ _ hq9 => E_fgo ?_ hq9)
        show E _ _ 181 [.ref 38, .int (nI x), .int (nI m), .int 1, .int (nI y), .int (nI i), .int (nI (y % 6))] [.int (rsn z 4 (y % 6) 0), .ref 38] (hov hp [(38, .inr (7, [.ref 39, .ref 40, .int (sbu s), .int (nI q), .ref 41, .int (nI n), .ref 42, .int fl, .int (-6), .int (-6), .int fr, .int rs, .int ac, .ref 43, .ref 44, .ref 45, .ref 46, .ref 47, .ref 48, .ref 49])), (39, .inl (false, 22, (bkF s))), (40, .inl (false, 22, (bkF (nxS z 4 (y % 6) 0))))]) _
        refine E_puti (fs2 := [.ref 39, .ref 40, .int (sbu s), .int (nI q), .ref 41, .int (nI n), .ref 42, .int fl, .int (-6), .int (-6), .int fr, .int (rsn z 4 (y % 6) 0), .int ac, .ref 43, .ref 44, .ref 45, .ref 46, .ref 47, .ref 48, .ref 49]) (L2 := [(38, .inr (7, [.ref 39, .ref 40, .int (sbu s), .int (nI q), .ref 41, .int (nI n), .ref 42, .int fl, .int (-6), .int (-6), .int fr, .int (rsn z 4 (y % 6) 0), .int ac, .ref 43, .ref 44, .ref 45, .ref 46, .ref 47, .ref 48, .ref 49])), (39, .inl (false, 22, (bkF s))), (40, .inl (false, 22, (bkF (nxS z 4 (y % 6) 0))))]) dX7_year_181 fX7_102 fpX7_11 (by decide) rfl (Nat.le_of_ble_eq_true rfl) rfl rfl ?_
        refine E_goto (tgt := 195) dX7_year_184 (by decide) ?_
        refine E_iinc (y := nI (i + 1)) (l2 := [.ref 38, .int (nI x), .int (nI m), .int 1, .int (nI y), .int (nI (i + 1)), .int (nI (y % 6))]) dX7_year_195 rfl (nI_1 _) (by decide) rfl ?_
        refine E_goto (tgt := 43) dX7_year_198 (by decide) ?_
        have e9 := ih (.int (nI (y % 6))) fl fr (rsn z 4 (y % 6) 0)
        rw [yN_x, show yK y = 4 from (by rw [yK, hk]; rfl)] at e9
        exact e9
      · by_cases hn99 : sni z < 99
        · refine E_iload dX7_year_43 rfl ?_
          refine E_iload_n dX7_year_45 rfl ?_
          refine E_icmp_ge (tgt := 201) dX7_year_46 (by decide) (fun c => absurd c (nI_ge hi (by omega))) (fun _ => ?_)
          refine E_bipush (v := 75) dX7_year_49 (by decide) ?_
          refine E_iload dX7_year_51 rfl ?_
          refine E_imul dX7_year_53 ?_
          refine E_bipush (v := 74) dX7_year_54 (by decide) ?_
          refine E_iadd dX7_year_56 ?_
          refine E_ldc dX7_year_57 qX7_151 ?_
          refine E_irem dX7_year_59 (by decide) ?_
          refine E_eqi (y := nI y) (by rw [← hy]; exact yX_m hX) ?_
          refine E_istore (l2 := [.ref 38, .int (nI x), .int (nI m), .int 1, .int (nI y), .int (nI i), l6]) dX7_year_60 (by decide) rfl ?_
          refine E_iload dX7_year_62 rfl ?_
          refine E_bipush (v := 6) dX7_year_64 (by decide) ?_
          refine E_irem dX7_year_66 (by decide) ?_
          refine E_eqi (y := nI (y % 6)) (nI_r (by omega) (by decide) (by decide)) ?_
          refine E_istore (l2 := [.ref 38, .int (nI x), .int (nI m), .int 1, .int (nI y), .int (nI i), .int (nI (y % 6))]) dX7_year_67 (by decide) rfl ?_
          refine E_iload dX7_year_69 rfl ?_
          refine E_bipush (v := 6) dX7_year_71 (by decide) ?_
          refine E_idiv dX7_year_73 (by decide) ?_
          refine E_eqi (y := nI (y / 6)) (nI_d (by omega) (by decide) (by decide)) ?_
          refine E_bipush (v := 8) dX7_year_74 (by decide) ?_
          refine E_irem dX7_year_76 (by decide) ?_
          refine E_eqi (y := nI (y / 6 % 8)) (nI_r (by omega) (by decide) (by decide)) ?_
          refine E_tableOut (tgt := 187) dX7_year_77 (.inr (by rw [nI_toInt (by omega)]; omega)) (by decide) ?_
          refine E_aload_n dX7_year_187 rfl ?_
          refine E_aload_n dX7_year_188 rfl ?_
          refine E_callV (As := []) (l' := [.ref 38]) (st := [.ref 38]) dX7_year_189 kX7_99 iX7_endNight vX7_endNight (by decide) rfl rfl MX7_endNight rfl rfl (Nat.le_of_ble_eq_true rfl) (FC.use (m_night0 d (sbu s) fl (-6) (-6) fr rs ac q n z hz hn99) rfl (L2 := [(38, .inr (7, [.ref 39, .ref 40, .int (sbu s), .int (nI q), .ref 41, .int (nI n), .ref 42, .int (fl + bcI (ngF z)), .int (-6), .int (-6), .int (ngF z), .int rs, .int ac, .ref 43, .ref 44, .ref 45, .ref 46, .ref 47, .ref 48, .ref 49])), (39, .inl (false, 22, (bkF s))), (40, .inl (false, 22, (bkF (ngS z))))]) rfl) (Nat.le_of_ble_eq_true rfl) (fun _ _ hq9 => E_fgo ?_ hq9)
          show E _ _ 192 [.ref 38, .int (nI x), .int (nI m), .int 1, .int (nI y), .int (nI i), .int (nI (y % 6))] [.int (rsn z 5 0 0), .ref 38] (hov hp [(38, .inr (7, [.ref 39, .ref 40, .int (sbu s), .int (nI q), .ref 41, .int (nI n), .ref 42, .int (fl + bcI (ngF z)), .int (-6), .int (-6), .int (ngF z), .int rs, .int ac, .ref 43, .ref 44, .ref 45, .ref 46, .ref 47, .ref 48, .ref 49])), (39, .inl (false, 22, (bkF s))), (40, .inl (false, 22, (bkF (ngS z))))]) _
          refine E_puti (fs2 := [.ref 39, .ref 40, .int (sbu s), .int (nI q), .ref 41, .int (nI n), .ref 42, .int (fl + bcI (ngF z)), .int (-6), .int (-6), .int (ngF z), .int (rsn z 5 0 0), .int ac, .ref 43, .ref 44, .ref 45, .ref 46, .ref 47, .ref 48, .ref 49]) (L2 := [(38, .inr (7, [.ref 39, .ref 40, .int (sbu s), .int (nI q), .ref 41, .int (nI n), .ref 42, .int (fl + bcI (ngF z)), .int (-6), .int (-6), .int (ngF z), .int (rsn z 5 0 0), .int ac, .ref 43, .ref 44, .ref 45, .ref 46, .ref 47, .ref 48, .ref 49])), (39, .inl (false, 22, (bkF s))), (40, .inl (false, 22, (bkF (ngS z))))]) dX7_year_192 fX7_102 fpX7_11 (by decide) rfl (Nat.le_of_ble_eq_true rfl) rfl rfl ?_
          refine E_iinc (y := nI (i + 1)) (l2 := [.ref 38, .int (nI x), .int (nI m), .int 1, .int (nI y), .int (nI (i + 1)), .int (nI (y % 6))]) dX7_year_195 rfl (nI_1 _) (by decide) rfl ?_
          refine E_goto (tgt := 43) dX7_year_198 (by decide) ?_
          have e9 := ih (.int (nI (y % 6))) (fl + bcI (ngF z)) (ngF z) (rsn z 5 0 0)
          rw [yN_x, show yK y = 5 from (by rw [yK, if_neg (by omega)])] at e9
          rw [show nxS z 5 (y % 6) (nI (y / 48 % 25)) = ngS z from (nxS_0 (by simp only [rsn]; rw [if_pos hn99])).trans rfl] at e9
          exact e9
        · refine E_iload dX7_year_43 rfl ?_
          refine E_iload_n dX7_year_45 rfl ?_
          refine E_icmp_ge (tgt := 201) dX7_year_46 (by decide) (fun c => absurd c (nI_ge hi (by omega))) (fun _ => ?_)
          refine E_bipush (v := 75) dX7_year_49 (by decide) ?_
          refine E_iload dX7_year_51 rfl ?_
          refine E_imul dX7_year_53 ?_
          refine E_bipush (v := 74) dX7_year_54 (by decide) ?_
          refine E_iadd dX7_year_56 ?_
          refine E_ldc dX7_year_57 qX7_151 ?_
          refine E_irem dX7_year_59 (by decide) ?_
          refine E_eqi (y := nI y) (by rw [← hy]; exact yX_m hX) ?_
          refine E_istore (l2 := [.ref 38, .int (nI x), .int (nI m), .int 1, .int (nI y), .int (nI i), l6]) dX7_year_60 (by decide) rfl ?_
          refine E_iload dX7_year_62 rfl ?_
          refine E_bipush (v := 6) dX7_year_64 (by decide) ?_
          refine E_irem dX7_year_66 (by decide) ?_
          refine E_eqi (y := nI (y % 6)) (nI_r (by omega) (by decide) (by decide)) ?_
          refine E_istore (l2 := [.ref 38, .int (nI x), .int (nI m), .int 1, .int (nI y), .int (nI i), .int (nI (y % 6))]) dX7_year_67 (by decide) rfl ?_
          refine E_iload dX7_year_69 rfl ?_
          refine E_bipush (v := 6) dX7_year_71 (by decide) ?_
          refine E_idiv dX7_year_73 (by decide) ?_
          refine E_eqi (y := nI (y / 6)) (nI_d (by omega) (by decide) (by decide)) ?_
          refine E_bipush (v := 8) dX7_year_74 (by decide) ?_
          refine E_irem dX7_year_76 (by decide) ?_
          refine E_eqi (y := nI (y / 6 % 8)) (nI_r (by omega) (by decide) (by decide)) ?_
          refine E_tableOut (tgt := 187) dX7_year_77 (.inr (by rw [nI_toInt (by omega)]; omega)) (by decide) ?_
          refine E_aload_n dX7_year_187 rfl ?_
          refine E_aload_n dX7_year_188 rfl ?_
          refine E_callV (As := []) (l' := [.ref 38]) (st := [.ref 38]) dX7_year_189 kX7_99 iX7_endNight vX7_endNight (by decide) rfl rfl MX7_endNight rfl rfl (Nat.le_of_ble_eq_true rfl) (FC.use (m_night1 d (sbu s) fl (-6) (-6) fr rs ac q n z (n99_e hz hn99)) rfl (L2 := [(38, .inr (7, [.ref 39, .ref 40, .int (sbu s), .int (nI q), .ref 41, .int (nI n), .ref 42, .int fl, .int (-6), .int (-6), .int fr, .int rs, .int ac, .ref 43, .ref 44, .ref 45, .ref 46, .ref 47, .ref 48, .ref 49])), (39, .inl (false, 22, (bkF s))), (40, .inl (false, 22, (bkF z)))]) rfl) (Nat.le_of_ble_eq_true rfl) (fun _ _ hq9 => E_fgo ?_ hq9)
          show E _ _ 192 [.ref 38, .int (nI x), .int (nI m), .int 1, .int (nI y), .int (nI i), .int (nI (y % 6))] [.int (rsn z 5 0 0), .ref 38] (hov hp [(38, .inr (7, [.ref 39, .ref 40, .int (sbu s), .int (nI q), .ref 41, .int (nI n), .ref 42, .int fl, .int (-6), .int (-6), .int fr, .int rs, .int ac, .ref 43, .ref 44, .ref 45, .ref 46, .ref 47, .ref 48, .ref 49])), (39, .inl (false, 22, (bkF s))), (40, .inl (false, 22, (bkF z)))]) _
          refine E_puti (fs2 := [.ref 39, .ref 40, .int (sbu s), .int (nI q), .ref 41, .int (nI n), .ref 42, .int fl, .int (-6), .int (-6), .int fr, .int (rsn z 5 0 0), .int ac, .ref 43, .ref 44, .ref 45, .ref 46, .ref 47, .ref 48, .ref 49]) (L2 := [(38, .inr (7, [.ref 39, .ref 40, .int (sbu s), .int (nI q), .ref 41, .int (nI n), .ref 42, .int fl, .int (-6), .int (-6), .int fr, .int (rsn z 5 0 0), .int ac, .ref 43, .ref 44, .ref 45, .ref 46, .ref 47, .ref 48, .ref 49])), (39, .inl (false, 22, (bkF s))), (40, .inl (false, 22, (bkF z)))]) dX7_year_192 fX7_102 fpX7_11 (by decide) rfl (Nat.le_of_ble_eq_true rfl) rfl rfl ?_
          refine E_iinc (y := nI (i + 1)) (l2 := [.ref 38, .int (nI x), .int (nI m), .int 1, .int (nI y), .int (nI (i + 1)), .int (nI (y % 6))]) dX7_year_195 rfl (nI_1 _) (by decide) rfl ?_
          refine E_goto (tgt := 43) dX7_year_198 (by decide) ?_
          have e9 := ih (.int (nI (y % 6))) fl fr (rsn z 5 0 0)
          rw [yN_x, show yK y = 5 from (by rw [yK, if_neg (by omega)])] at e9
          rw [show nxS z 5 (y % 6) (nI (y / 48 % 25)) = z from nxS_1 (by simp only [rsn]; rw [if_neg hn99]; decide)] at e9
          exact e9
  refine E_iload_n dX7_year_0 rfl ?_
  refine E_iconst (v := 0) dX7_year_1 (by decide) ?_
  refine E_sipush (v := 9999) dX7_year_2 (by decide) ?_
  refine E_callS (As := [.int (nI x), .int 0, .int 9999]) (l' := [.int (nI x), .int 0, .int 9999]) (st := []) dX7_year_5 kX7_48 sX7_in MX7_in rfl rfl (Nat.le_of_ble_eq_true rfl) (FC.use (c_in (d + 3) _ _ _) rfl (L2 := [(38, .inr (7, [.ref 39, .ref 40, .int (sbu s), .int (nI q), .ref 41, .int (nI n), .ref 42, .int fl, .int fa, .int fw, .int fr, .int rs, .int ac, .ref 43, .ref 44, .ref 45, .ref 46, .ref 47, .ref 48, .ref 49])), (39, .inl (false, 22, (bkF s))), (40, .inl (false, 22, (bkF t)))]) rfl) (Nat.le_of_ble_eq_true rfl) (fun _ _ hq9 => E_fgo ?_ hq9)
  show E _ _ 8 [.ref 38, .int (nI x), .int (nI m), .int 1, .null, .null, .null] [.int (b2i (inI (nI x) 0 9999))] (hov hp [(38, .inr (7, [.ref 39, .ref 40, .int (sbu s), .int (nI q), .ref 41, .int (nI n), .ref 42, .int fl, .int fa, .int fw, .int fr, .int rs, .int ac, .ref 43, .ref 44, .ref 45, .ref 46, .ref 47, .ref 48, .ref 49])), (39, .inl (false, 22, (bkF s))), (40, .inl (false, 22, (bkF t)))]) _
  refine E_if_eq (tgt := 30) dX7_year_8 (by decide) (fun c => (b2i_x1 h0 c).elim) (fun _ => ?_)
  refine E_iload_n dX7_year_11 rfl ?_
  refine E_iconst (v := 1) dX7_year_12 (by decide) ?_
  refine E_bipush (v := 99) dX7_year_13 (by decide) ?_
  refine E_callS (As := [.int (nI m), .int 1, .int 99]) (l' := [.int (nI m), .int 1, .int 99]) (st := []) dX7_year_15 kX7_48 sX7_in MX7_in rfl rfl (Nat.le_of_ble_eq_true rfl) (FC.use (c_in (d + 3) _ _ _) rfl (L2 := [(38, .inr (7, [.ref 39, .ref 40, .int (sbu s), .int (nI q), .ref 41, .int (nI n), .ref 42, .int fl, .int fa, .int fw, .int fr, .int rs, .int ac, .ref 43, .ref 44, .ref 45, .ref 46, .ref 47, .ref 48, .ref 49])), (39, .inl (false, 22, (bkF s))), (40, .inl (false, 22, (bkF t)))]) rfl) (Nat.le_of_ble_eq_true rfl) (fun _ _ hq9 => E_fgo ?_ hq9)
  show E _ _ 18 [.ref 38, .int (nI x), .int (nI m), .int 1, .null, .null, .null] [.int (b2i (inI (nI m) 1 99))] (hov hp [(38, .inr (7, [.ref 39, .ref 40, .int (sbu s), .int (nI q), .ref 41, .int (nI n), .ref 42, .int fl, .int fa, .int fw, .int fr, .int rs, .int ac, .ref 43, .ref 44, .ref 45, .ref 46, .ref 47, .ref 48, .ref 49])), (39, .inl (false, 22, (bkF s))), (40, .inl (false, 22, (bkF t)))]) _
  refine E_if_eq (tgt := 30) dX7_year_18 (by decide) (fun c => (b2i_x1 h1 c).elim) (fun _ => ?_)
  refine E_iload_n dX7_year_21 rfl ?_
  refine E_iconst (v := 0) dX7_year_22 (by decide) ?_
  refine E_iconst (v := 2) dX7_year_23 (by decide) ?_
  refine E_callS (As := [.int 1, .int 0, .int 2]) (l' := [.int 1, .int 0, .int 2]) (st := []) dX7_year_24 kX7_48 sX7_in MX7_in rfl rfl (Nat.le_of_ble_eq_true rfl) (FC.use (c_in (d + 3) _ _ _) rfl (L2 := [(38, .inr (7, [.ref 39, .ref 40, .int (sbu s), .int (nI q), .ref 41, .int (nI n), .ref 42, .int fl, .int fa, .int fw, .int fr, .int rs, .int ac, .ref 43, .ref 44, .ref 45, .ref 46, .ref 47, .ref 48, .ref 49])), (39, .inl (false, 22, (bkF s))), (40, .inl (false, 22, (bkF t)))]) rfl) (Nat.le_of_ble_eq_true rfl) (fun _ _ hq9 => E_fgo ?_ hq9)
  show E _ _ 27 [.ref 38, .int (nI x), .int (nI m), .int 1, .null, .null, .null] [.int (b2i (inI 1 0 2))] (hov hp [(38, .inr (7, [.ref 39, .ref 40, .int (sbu s), .int (nI q), .ref 41, .int (nI n), .ref 42, .int fl, .int fa, .int fw, .int fr, .int rs, .int ac, .ref 43, .ref 44, .ref 45, .ref 46, .ref 47, .ref 48, .ref 49])), (39, .inl (false, 22, (bkF s))), (40, .inl (false, 22, (bkF t)))]) _
  refine E_if_ne (tgt := 33) dX7_year_27 (by decide) (fun _ => ?_) (fun c => (b2i_x1 (by decide) c).elim)
  refine E_aload_n dX7_year_33 rfl ?_
  refine E_callV (As := []) (l' := [.ref 38, .null]) (st := []) dX7_year_34 kX7_93 iX7_asNow vX7_asNow (by decide) rfl rfl MX7_asNow rfl rfl (Nat.le_of_ble_eq_true rfl) (FC.use (c_asNow (d + 3) (sbu s) fl fa fw fr rs ac q n s t) rfl (L2 := [(38, .inr (7, [.ref 39, .ref 40, .int (sbu s), .int (nI q), .ref 41, .int (nI n), .ref 42, .int 0, .int (-6), .int (-6), .int fr, .int rs, .int ac, .ref 43, .ref 44, .ref 45, .ref 46, .ref 47, .ref 48, .ref 49])), (39, .inl (false, 22, (bkF s))), (40, .inl (false, 22, (bkF s)))]) rfl) (Nat.le_of_ble_eq_true rfl) (fun _ _ hq9 => E_fgo ?_ hq9)
  show E _ _ 37 [.ref 38, .int (nI x), .int (nI m), .int 1, .null, .null, .null] [] (hov hp [(38, .inr (7, [.ref 39, .ref 40, .int (sbu s), .int (nI q), .ref 41, .int (nI n), .ref 42, .int 0, .int (-6), .int (-6), .int fr, .int rs, .int ac, .ref 43, .ref 44, .ref 45, .ref 46, .ref 47, .ref 48, .ref 49])), (39, .inl (false, 22, (bkF s))), (40, .inl (false, 22, (bkF s)))]) _
  refine E_iload_n dX7_year_37 rfl ?_
  refine E_istore (l2 := [.ref 38, .int (nI x), .int (nI m), .int 1, .int (nI x), .null, .null]) dX7_year_38 (by decide) rfl ?_
  refine E_iconst (v := 0) dX7_year_40 (by decide) ?_
  refine E_istore (l2 := [.ref 38, .int (nI x), .int (nI m), .int 1, .int (nI x), .int 0, .null]) dX7_year_41 (by decide) rfl ?_
  exact L 0 (Nat.zero_le _) _ _ _ _

set_option maxHeartbeats 4000000 in
set_option maxRecDepth 20000 in
theorem m_year_2 (d : Nat) (fl fa fw fr rs ac : Int32) (q n : Nat) (s t : CS) (hs : OkS s) (x m : Nat) (hx : x < 10000) (hm : m < 100) (h0 : inI (nI x) 0 9999 = true) (h1 : inI (nI m) 1 99 = true) : FR YX7_year (d + 4) [.ref 38, .int (nI x), .int (nI m), .int 2, .null, .null, .null] [(38, .inr (7, [.ref 39, .ref 40, .int (sbu s), .int (nI q), .ref 41, .int (nI n), .ref 42, .int fl, .int fa, .int fw, .int fr, .int rs, .int ac, .ref 43, .ref 44, .ref 45, .ref 46, .ref 47, .ref 48, .ref 49])), (39, .inl (false, 22, (bkF s))), (40, .inl (false, 22, (bkF t)))] (fun v M => ∃ fl' fr' rs' : Int32, M = [(38, .inr (7, [.ref 39, .ref 40, .int (sbu s), .int (nI q), .ref 41, .int (nI n), .ref 42, .int fl', .int (-6), .int (-6), .int fr', .int rs', .int ac, .ref 43, .ref 44, .ref 45, .ref 46, .ref 47, .ref 48, .ref 49])), (39, .inl (false, 22, (bkF s))), (40, .inl (false, 22, (bkF ((yr s x m).1))))] ∧ v = some (.int (sumN (she (yr s x m).1) 6))) := by
  intro hp
  have LS : ∀ i, i ≤ 6 → ∀ (e4 : Int32) (fl fr rs : Int32), E YX7_year (d + 4) 207 [.ref 38, .int (nI x), .int (nI m), .int 2, .int e4, .int (sumN (she (yr s x m).1) i), .int (nI i)] [] (hov hp [(38, .inr (7, [.ref 39, .ref 40, .int (sbu s), .int (nI q), .ref 41, .int (nI n), .ref 42, .int fl, .int (-6), .int (-6), .int fr, .int rs, .int ac, .ref 43, .ref 44, .ref 45, .ref 46, .ref 47, .ref 48, .ref 49])), (39, .inl (false, 22, (bkF s))), (40, .inl (false, 22, (bkF ((yr s x m).1))))]) (fun v h' => ∃ M, h' = hov hp M ∧ (fun v M => ∃ fl' fr' rs' : Int32, M = [(38, .inr (7, [.ref 39, .ref 40, .int (sbu s), .int (nI q), .ref 41, .int (nI n), .ref 42, .int fl', .int (-6), .int (-6), .int fr', .int rs', .int ac, .ref 43, .ref 44, .ref 45, .ref 46, .ref 47, .ref 48, .ref 49])), (39, .inl (false, 22, (bkF s))), (40, .inl (false, 22, (bkF ((yr s x m).1))))] ∧ v = some (.int (sumN (she (yr s x m).1) 6))) v M) := by
    refine down 6 ?_ ?_
    · intro e4 fl fr rs
      refine E_iload dX7_year_207 rfl ?_
      refine E_bipush (v := 6) dX7_year_209 (by decide) ?_
      refine E_icmp_ge (tgt := 232) dX7_year_211 (by decide) (fun _ => ?_) (fun c => absurd (by decide) c)
      refine E_iload_n dX7_year_232 rfl ?_
      refine E_if_ne (tgt := 249) dX7_year_233 (by decide) (fun _ => ?_) (fun c => by first | exact absurd c (by decide) | exact absurd (by decide) c)
      refine E_iload_n dX7_year_249 rfl ?_
      refine E_iconst (v := 1) dX7_year_250 (by decide) ?_
      refine E_icmp_ne (tgt := 267) dX7_year_251 (by decide) (fun _ => ?_) (fun c => by first | exact absurd c (by decide) | exact absurd (by decide) c)
      refine E_iload dX7_year_267 rfl ?_
      exact E_iret (st := []) dX7_year_269 rfl rfl ⟨_, rfl, fl, fr, rs, rfl, rfl⟩
    · intro i hi ih e4 fl fr rs
      generalize (yr s x m).1 = Z at ih ⊢
      refine E_iload dX7_year_207 rfl ?_
      refine E_bipush (v := 6) dX7_year_209 (by decide) ?_
      refine E_icmp_ge (tgt := 232) dX7_year_211 (by decide) (fun c => absurd c (cI_nle (n := 6) rfl hi (by decide))) (fun _ => ?_)
      refine E_iload dX7_year_214 rfl ?_
      refine E_aload_n dX7_year_216 rfl ?_
      refine E_get dX7_year_217 fX7_13 (by decide) rfl rfl ?_
      refine E_iload dX7_year_220 rfl ?_
      refine E_ialdN (j := i) dX7_year_222 (by decide) rfl (by omega) (by decide) ?_
      refine E_eqi (y := she Z i) (bk_h hi) ?_
      refine E_iadd dX7_year_223 ?_
      refine E_istore (l2 := [.ref 38, .int (nI x), .int (nI m), .int 2, .int e4, .int ((sumN (she Z) i) + (she Z i)), .int (nI i)]) dX7_year_224 (by decide) rfl ?_
      refine E_iinc (y := nI (i + 1)) (l2 := [.ref 38, .int (nI x), .int (nI m), .int 2, .int e4, .int ((sumN (she Z) i) + (she Z i)), .int (nI (i + 1))]) dX7_year_226 rfl (nI_1 _) (by decide) rfl ?_
      refine E_goto (tgt := 207) dX7_year_229 (by decide) ?_
      exact ih _ _ _ _
  have L : ∀ i, i ≤ m → ∀ (l6 : Value) (fl fr rs : Int32), E YX7_year (d + 4) 43 [.ref 38, .int (nI x), .int (nI m), .int 2, .int (nI ((yr s x i).2)), .int (nI i), l6] [] (hov hp [(38, .inr (7, [.ref 39, .ref 40, .int (sbu s), .int (nI q), .ref 41, .int (nI n), .ref 42, .int fl, .int (-6), .int (-6), .int fr, .int rs, .int ac, .ref 43, .ref 44, .ref 45, .ref 46, .ref 47, .ref 48, .ref 49])), (39, .inl (false, 22, (bkF s))), (40, .inl (false, 22, (bkF ((yr s x i).1))))]) (fun v h' => ∃ M, h' = hov hp M ∧ (fun v M => ∃ fl' fr' rs' : Int32, M = [(38, .inr (7, [.ref 39, .ref 40, .int (sbu s), .int (nI q), .ref 41, .int (nI n), .ref 42, .int fl', .int (-6), .int (-6), .int fr', .int rs', .int ac, .ref 43, .ref 44, .ref 45, .ref 46, .ref 47, .ref 48, .ref 49])), (39, .inl (false, 22, (bkF s))), (40, .inl (false, 22, (bkF ((yr s x m).1))))] ∧ v = some (.int (sumN (she (yr s x m).1) 6))) v M) := by
    refine down m ?_ ?_
    · intro l6 fl fr rs
      refine E_iload dX7_year_43 rfl ?_
      refine E_iload_n dX7_year_45 rfl ?_
      refine E_icmp_ge (tgt := 201) dX7_year_46 (by decide) (fun _ => ?_) (fun c => absurd (nI_le (Nat.le_refl _) (by omega)) c)
      refine E_iconst (v := 0) dX7_year_201 (by decide) ?_
      refine E_istore (l2 := [.ref 38, .int (nI x), .int (nI m), .int 2, .int (nI ((yr s x m).2)), .int 0, l6]) dX7_year_202 (by decide) rfl ?_
      refine E_iconst (v := 0) dX7_year_204 (by decide) ?_
      refine E_istore (l2 := [.ref 38, .int (nI x), .int (nI m), .int 2, .int (nI ((yr s x m).2)), .int 0, .int 0]) dX7_year_205 (by decide) rfl ?_
      exact LS 0 (by decide) _ _ _ _
    · intro i hi ih l6 fl fr rs
      have hX := yr_lt (s := s) (seed := x) (by omega) i
      have hOK := yr_ok hs x i
      have hY : yX (yr s x i).2 < 65537 := Nat.mod_lt _ (by decide)
      generalize hy : yX (yr s x i).2 = y at hY
      have eS : (yr s x (i + 1)).1 = yN (yr s x i).1 y := by rw [← hy]; rfl
      have eX : (yr s x (i + 1)).2 = y := by rw [← hy]; rfl
      rw [eS, eX] at ih
      generalize (yr s x i).1 = z at ih hOK ⊢
      obtain ⟨hz, hbz⟩ := hOK
      have hk : y / 6 % 8 = 0 ∨ y / 6 % 8 = 1 ∨ y / 6 % 8 = 2 ∨ y / 6 % 8 = 3 ∨ y / 6 % 8 = 4 ∨ 5 ≤ y / 6 % 8 := by omega
      rcases hk with hk | hk | hk | hk | hk | hk
      · refine E_iload dX7_year_43 rfl ?_
        refine E_iload_n dX7_year_45 rfl ?_
        refine E_icmp_ge (tgt := 201) dX7_year_46 (by decide) (fun c => absurd c (nI_ge hi (by omega))) (fun _ => ?_)
        refine E_bipush (v := 75) dX7_year_49 (by decide) ?_
        refine E_iload dX7_year_51 rfl ?_
        refine E_imul dX7_year_53 ?_
        refine E_bipush (v := 74) dX7_year_54 (by decide) ?_
        refine E_iadd dX7_year_56 ?_
        refine E_ldc dX7_year_57 qX7_151 ?_
        refine E_irem dX7_year_59 (by decide) ?_
        refine E_eqi (y := nI y) (by rw [← hy]; exact yX_m hX) ?_
        refine E_istore (l2 := [.ref 38, .int (nI x), .int (nI m), .int 2, .int (nI y), .int (nI i), l6]) dX7_year_60 (by decide) rfl ?_
        refine E_iload dX7_year_62 rfl ?_
        refine E_bipush (v := 6) dX7_year_64 (by decide) ?_
        refine E_irem dX7_year_66 (by decide) ?_
        refine E_eqi (y := nI (y % 6)) (nI_r (by omega) (by decide) (by decide)) ?_
        refine E_istore (l2 := [.ref 38, .int (nI x), .int (nI m), .int 2, .int (nI y), .int (nI i), .int (nI (y % 6))]) dX7_year_67 (by decide) rfl ?_
        refine E_iload dX7_year_69 rfl ?_
        refine E_bipush (v := 6) dX7_year_71 (by decide) ?_
        refine E_idiv dX7_year_73 (by decide) ?_
        refine E_eqi (y := nI (y / 6)) (nI_d (by omega) (by decide) (by decide)) ?_
        refine E_bipush (v := 8) dX7_year_74 (by decide) ?_
        refine E_irem dX7_year_76 (by decide) ?_
        refine E_eqi (y := nI (y / 6 % 8)) (nI_r (by omega) (by decide) (by decide)) ?_
        refine E_eqi (y := 0) (by rw [hk]; rfl) ?_
        refine E_tableIn (off := 35) (tgt := 112) dX7_year_77 (by decide) (by decide) (by decide) (by decide) ?_
        refine E_aload_n dX7_year_112 rfl ?_
        refine E_aload_n dX7_year_113 rfl ?_
        refine E_iload dX7_year_114 rfl ?_
        refine E_iload dX7_year_116 rfl ?_
        refine E_bipush (v := 48) dX7_year_118 (by decide) ?_
        refine E_idiv dX7_year_120 (by decide) ?_
        refine E_eqi (y := nI (y / 48)) (nI_d (by omega) (by decide) (by decide)) ?_
        refine E_bipush (v := 25) dX7_year_121 (by decide) ?_
        refine E_irem dX7_year_123 (by decide) ?_
        refine E_eqi (y := nI (y / 48 % 25)) (nI_r (by omega) (by decide) (by decide)) ?_
        refine E_callV (As := [.int (nI (y % 6)), .int (nI (y / 48 % 25))]) (l' := [.ref 38, .int (nI (y % 6)), .int (nI (y / 48 % 25)), .null]) (st := [.ref 38]) dX7_year_124 kX7_114 iX7_stack vX7_stack (by decide) rfl rfl MX7_stack rfl rfl (Nat.le_of_ble_eq_true rfl) (FC.use (m_stack (d + 3) (sbu s) fl (-6) (-6) fr rs ac q n z (y % 6) (by omega) (nI (y / 48 % 25))) rfl (L2 := [(38, .inr (7, [.ref 39, .ref 40, .int (sbu s), .int (nI q), .ref 41, .int (nI n), .ref 42, .int fl, .int (-6), .int (-6), .int fr, .int rs, .int ac, .ref 43, .ref 44, .ref 45, .ref 46, .ref 47, .ref 48, .ref 49])), (39, .inl (false, 22, (bkF s))), (40, .inl (false, 22, (bkF (nxS z 0 (y % 6) (nI (y / 48 % 25))))))]) rfl) (Nat.le_of_ble_eq_true rfl) (fun _ _ hq9 => E_fgo ?_ hq9)
        show E _ _ 127 [.ref 38, .int (nI x), .int (nI m), .int 2, .int (nI y), .int (nI i), .int (nI (y % 6))] [.int (rsn z 0 (y % 6) (nI (y / 48 % 25))), .ref 38] (hov hp [(38, .inr (7, [.ref 39, .ref 40, .int (sbu s), .int (nI q), .ref 41, .int (nI n), .ref 42, .int fl, .int (-6), .int (-6), .int fr, .int rs, .int ac, .ref 43, .ref 44, .ref 45, .ref 46, .ref 47, .ref 48, .ref 49])), (39, .inl (false, 22, (bkF s))), (40, .inl (false, 22, (bkF (nxS z 0 (y % 6) (nI (y / 48 % 25))))))]) _
        refine E_puti (fs2 := [.ref 39, .ref 40, .int (sbu s), .int (nI q), .ref 41, .int (nI n), .ref 42, .int fl, .int (-6), .int (-6), .int fr, .int (rsn z 0 (y % 6) (nI (y / 48 % 25))), .int ac, .ref 43, .ref 44, .ref 45, .ref 46, .ref 47, .ref 48, .ref 49]) (L2 := [(38, .inr (7, [.ref 39, .ref 40, .int (sbu s), .int (nI q), .ref 41, .int (nI n), .ref 42, .int fl, .int (-6), .int (-6), .int fr, .int (rsn z 0 (y % 6) (nI (y / 48 % 25))), .int ac, .ref 43, .ref 44, .ref 45, .ref 46, .ref 47, .ref 48, .ref 49])), (39, .inl (false, 22, (bkF s))), (40, .inl (false, 22, (bkF (nxS z 0 (y % 6) (nI (y / 48 % 25))))))]) dX7_year_127 fX7_102 fpX7_11 (by decide) rfl (Nat.le_of_ble_eq_true rfl) rfl rfl ?_
        refine E_goto (tgt := 195) dX7_year_130 (by decide) ?_
        refine E_iinc (y := nI (i + 1)) (l2 := [.ref 38, .int (nI x), .int (nI m), .int 2, .int (nI y), .int (nI (i + 1)), .int (nI (y % 6))]) dX7_year_195 rfl (nI_1 _) (by decide) rfl ?_
        refine E_goto (tgt := 43) dX7_year_198 (by decide) ?_
        have e9 := ih (.int (nI (y % 6))) fl fr (rsn z 0 (y % 6) (nI (y / 48 % 25)))
        rw [yN_x, show yK y = 0 from (by rw [yK, hk]; rfl)] at e9
        exact e9
      · refine E_iload dX7_year_43 rfl ?_
        refine E_iload_n dX7_year_45 rfl ?_
        refine E_icmp_ge (tgt := 201) dX7_year_46 (by decide) (fun c => absurd c (nI_ge hi (by omega))) (fun _ => ?_)
        refine E_bipush (v := 75) dX7_year_49 (by decide) ?_
        refine E_iload dX7_year_51 rfl ?_
        refine E_imul dX7_year_53 ?_
        refine E_bipush (v := 74) dX7_year_54 (by decide) ?_
        refine E_iadd dX7_year_56 ?_
        refine E_ldc dX7_year_57 qX7_151 ?_
        refine E_irem dX7_year_59 (by decide) ?_
        refine E_eqi (y := nI y) (by rw [← hy]; exact yX_m hX) ?_
        refine E_istore (l2 := [.ref 38, .int (nI x), .int (nI m), .int 2, .int (nI y), .int (nI i), l6]) dX7_year_60 (by decide) rfl ?_
        refine E_iload dX7_year_62 rfl ?_
        refine E_bipush (v := 6) dX7_year_64 (by decide) ?_
        refine E_irem dX7_year_66 (by decide) ?_
        refine E_eqi (y := nI (y % 6)) (nI_r (by omega) (by decide) (by decide)) ?_
        refine E_istore (l2 := [.ref 38, .int (nI x), .int (nI m), .int 2, .int (nI y), .int (nI i), .int (nI (y % 6))]) dX7_year_67 (by decide) rfl ?_
        refine E_iload dX7_year_69 rfl ?_
        refine E_bipush (v := 6) dX7_year_71 (by decide) ?_
        refine E_idiv dX7_year_73 (by decide) ?_
        refine E_eqi (y := nI (y / 6)) (nI_d (by omega) (by decide) (by decide)) ?_
        refine E_bipush (v := 8) dX7_year_74 (by decide) ?_
        refine E_irem dX7_year_76 (by decide) ?_
        refine E_eqi (y := nI (y / 6 % 8)) (nI_r (by omega) (by decide) (by decide)) ?_
        refine E_eqi (y := 1) (by rw [hk]; rfl) ?_
        refine E_tableIn (off := 56) (tgt := 133) dX7_year_77 (by decide) (by decide) (by decide) (by decide) ?_
        refine E_aload_n dX7_year_133 rfl ?_
        refine E_aload_n dX7_year_134 rfl ?_
        refine E_iload dX7_year_135 rfl ?_
        refine E_iconst (v := 1) dX7_year_137 (by decide) ?_
        refine E_callV (As := [.int (nI (y % 6)), .int 1]) (l' := [.ref 38, .int (nI (y % 6)), .int 1]) (st := [.ref 38]) dX7_year_138 kX7_105 iX7_turf vX7_turf (by decide) rfl rfl MX7_turf rfl rfl (Nat.le_of_ble_eq_true rfl) (FC.use (m_turf1 (d + 2) (sbu s) fl (-6) (-6) fr rs ac q n z hz (y % 6) (by omega)) rfl (L2 := [(38, .inr (7, [.ref 39, .ref 40, .int (sbu s), .int (nI q), .ref 41, .int (nI n), .ref 42, .int fl, .int (-6), .int (-6), .int fr, .int rs, .int ac, .ref 43, .ref 44, .ref 45, .ref 46, .ref 47, .ref 48, .ref 49])), (39, .inl (false, 22, (bkF s))), (40, .inl (false, 22, (bkF (nxS z 1 (y % 6) 0))))]) rfl) (Nat.le_of_ble_eq_true rfl) (fun _ _ hq9 => E_fgo ?_ hq9)
        show E _ _ 141 [.ref 38, .int (nI x), .int (nI m), .int 2, .int (nI y), .int (nI i), .int (nI (y % 6))] [.int (rsn z 1 (y % 6) 0), .ref 38] (hov hp [(38, .inr (7, [.ref 39, .ref 40, .int (sbu s), .int (nI q), .ref 41, .int (nI n), .ref 42, .int fl, .int (-6), .int (-6), .int fr, .int rs, .int ac, .ref 43, .ref 44, .ref 45, .ref 46, .ref 47, .ref 48, .ref 49])), (39, .inl (false, 22, (bkF s))), (40, .inl (false, 22, (bkF (nxS z 1 (y % 6) 0))))]) _
        refine E_puti (fs2 := [.ref 39, .ref 40, .int (sbu s), .int (nI q), .ref 41, .int (nI n), .ref 42, .int fl, .int (-6), .int (-6), .int fr, .int (rsn z 1 (y % 6) 0), .int ac, .ref 43, .ref 44, .ref 45, .ref 46, .ref 47, .ref 48, .ref 49]) (L2 := [(38, .inr (7, [.ref 39, .ref 40, .int (sbu s), .int (nI q), .ref 41, .int (nI n), .ref 42, .int fl, .int (-6), .int (-6), .int fr, .int (rsn z 1 (y % 6) 0), .int ac, .ref 43, .ref 44, .ref 45, .ref 46, .ref 47, .ref 48, .ref 49])), (39, .inl (false, 22, (bkF s))), (40, .inl (false, 22, (bkF (nxS z 1 (y % 6) 0))))]) dX7_year_141 fX7_102 fpX7_11 (by decide) rfl (Nat.le_of_ble_eq_true rfl) rfl rfl ?_
        refine E_goto (tgt := 195) dX7_year_144 (by decide) ?_
        refine E_iinc (y := nI (i + 1)) (l2 := [.ref 38, .int (nI x), .int (nI m), .int 2, .int (nI y), .int (nI (i + 1)), .int (nI (y % 6))]) dX7_year_195 rfl (nI_1 _) (by decide) rfl ?_
        refine E_goto (tgt := 43) dX7_year_198 (by decide) ?_
        have e9 := ih (.int (nI (y % 6))) fl fr (rsn z 1 (y % 6) 0)
        rw [yN_x, show yK y = 1 from (by rw [yK, hk]; rfl)] at e9
        exact e9
      · refine E_iload dX7_year_43 rfl ?_
        refine E_iload_n dX7_year_45 rfl ?_
        refine E_icmp_ge (tgt := 201) dX7_year_46 (by decide) (fun c => absurd c (nI_ge hi (by omega))) (fun _ => ?_)
        refine E_bipush (v := 75) dX7_year_49 (by decide) ?_
        refine E_iload dX7_year_51 rfl ?_
        refine E_imul dX7_year_53 ?_
        refine E_bipush (v := 74) dX7_year_54 (by decide) ?_
        refine E_iadd dX7_year_56 ?_
        refine E_ldc dX7_year_57 qX7_151 ?_
        refine E_irem dX7_year_59 (by decide) ?_
        refine E_eqi (y := nI y) (by rw [← hy]; exact yX_m hX) ?_
        refine E_istore (l2 := [.ref 38, .int (nI x), .int (nI m), .int 2, .int (nI y), .int (nI i), l6]) dX7_year_60 (by decide) rfl ?_
        refine E_iload dX7_year_62 rfl ?_
        refine E_bipush (v := 6) dX7_year_64 (by decide) ?_
        refine E_irem dX7_year_66 (by decide) ?_
        refine E_eqi (y := nI (y % 6)) (nI_r (by omega) (by decide) (by decide)) ?_
        refine E_istore (l2 := [.ref 38, .int (nI x), .int (nI m), .int 2, .int (nI y), .int (nI i), .int (nI (y % 6))]) dX7_year_67 (by decide) rfl ?_
        refine E_iload dX7_year_69 rfl ?_
        refine E_bipush (v := 6) dX7_year_71 (by decide) ?_
        refine E_idiv dX7_year_73 (by decide) ?_
        refine E_eqi (y := nI (y / 6)) (nI_d (by omega) (by decide) (by decide)) ?_
        refine E_bipush (v := 8) dX7_year_74 (by decide) ?_
        refine E_irem dX7_year_76 (by decide) ?_
        refine E_eqi (y := nI (y / 6 % 8)) (nI_r (by omega) (by decide) (by decide)) ?_
        refine E_eqi (y := 2) (by rw [hk]; rfl) ?_
        refine E_tableIn (off := 70) (tgt := 147) dX7_year_77 (by decide) (by decide) (by decide) (by decide) ?_
        refine E_aload_n dX7_year_147 rfl ?_
        refine E_aload_n dX7_year_148 rfl ?_
        refine E_iload dX7_year_149 rfl ?_
        refine E_iconst (v := (-1)) dX7_year_151 (by decide) ?_
        refine E_callV (As := [.int (nI (y % 6)), .int (-1)]) (l' := [.ref 38, .int (nI (y % 6)), .int (-1)]) (st := [.ref 38]) dX7_year_152 kX7_105 iX7_turf vX7_turf (by decide) rfl rfl MX7_turf rfl rfl (Nat.le_of_ble_eq_true rfl) (FC.use (m_turf2 (d + 2) (sbu s) fl (-6) (-6) fr rs ac q n z hz (y % 6) (by omega)) rfl (L2 := [(38, .inr (7, [.ref 39, .ref 40, .int (sbu s), .int (nI q), .ref 41, .int (nI n), .ref 42, .int fl, .int (-6), .int (-6), .int fr, .int rs, .int ac, .ref 43, .ref 44, .ref 45, .ref 46, .ref 47, .ref 48, .ref 49])), (39, .inl (false, 22, (bkF s))), (40, .inl (false, 22, (bkF (nxS z 2 (y % 6) 0))))]) rfl) (Nat.le_of_ble_eq_true rfl) (fun _ _ hq9 => E_fgo ?_ hq9)
        show E _ _ 155 [.ref 38, .int (nI x), .int (nI m), .int 2, .int (nI y), .int (nI i), .int (nI (y % 6))] [.int (rsn z 2 (y % 6) 0), .ref 38] (hov hp [(38, .inr (7, [.ref 39, .ref 40, .int (sbu s), .int (nI q), .ref 41, .int (nI n), .ref 42, .int fl, .int (-6), .int (-6), .int fr, .int rs, .int ac, .ref 43, .ref 44, .ref 45, .ref 46, .ref 47, .ref 48, .ref 49])), (39, .inl (false, 22, (bkF s))), (40, .inl (false, 22, (bkF (nxS z 2 (y % 6) 0))))]) _
        refine E_puti (fs2 := [.ref 39, .ref 40, .int (sbu s), .int (nI q), .ref 41, .int (nI n), .ref 42, .int fl, .int (-6), .int (-6), .int fr, .int (rsn z 2 (y % 6) 0), .int ac, .ref 43, .ref 44, .ref 45, .ref 46, .ref 47, .ref 48, .ref 49]) (L2 := [(38, .inr (7, [.ref 39, .ref 40, .int (sbu s), .int (nI q), .ref 41, .int (nI n), .ref 42, .int fl, .int (-6), .int (-6), .int fr, .int (rsn z 2 (y % 6) 0), .int ac, .ref 43, .ref 44, .ref 45, .ref 46, .ref 47, .ref 48, .ref 49])), (39, .inl (false, 22, (bkF s))), (40, .inl (false, 22, (bkF (nxS z 2 (y % 6) 0))))]) dX7_year_155 fX7_102 fpX7_11 (by decide) rfl (Nat.le_of_ble_eq_true rfl) rfl rfl ?_
        refine E_goto (tgt := 195) dX7_year_158 (by decide) ?_
        refine E_iinc (y := nI (i + 1)) (l2 := [.ref 38, .int (nI x), .int (nI m), .int 2, .int (nI y), .int (nI (i + 1)), .int (nI (y % 6))]) dX7_year_195 rfl (nI_1 _) (by decide) rfl ?_
        refine E_goto (tgt := 43) dX7_year_198 (by decide) ?_
        have e9 := ih (.int (nI (y % 6))) fl fr (rsn z 2 (y % 6) 0)
        rw [yN_x, show yK y = 2 from (by rw [yK, hk]; rfl)] at e9
        exact e9
      · refine E_iload dX7_year_43 rfl ?_
        refine E_iload_n dX7_year_45 rfl ?_
        refine E_icmp_ge (tgt := 201) dX7_year_46 (by decide) (fun c => absurd c (nI_ge hi (by omega))) (fun _ => ?_)
        refine E_bipush (v := 75) dX7_year_49 (by decide) ?_
        refine E_iload dX7_year_51 rfl ?_
        refine E_imul dX7_year_53 ?_
        refine E_bipush (v := 74) dX7_year_54 (by decide) ?_
        refine E_iadd dX7_year_56 ?_
        refine E_ldc dX7_year_57 qX7_151 ?_
        refine E_irem dX7_year_59 (by decide) ?_
        refine E_eqi (y := nI y) (by rw [← hy]; exact yX_m hX) ?_
        refine E_istore (l2 := [.ref 38, .int (nI x), .int (nI m), .int 2, .int (nI y), .int (nI i), l6]) dX7_year_60 (by decide) rfl ?_
        refine E_iload dX7_year_62 rfl ?_
        refine E_bipush (v := 6) dX7_year_64 (by decide) ?_
        refine E_irem dX7_year_66 (by decide) ?_
        refine E_eqi (y := nI (y % 6)) (nI_r (by omega) (by decide) (by decide)) ?_
        refine E_istore (l2 := [.ref 38, .int (nI x), .int (nI m), .int 2, .int (nI y), .int (nI i), .int (nI (y % 6))]) dX7_year_67 (by decide) rfl ?_
        refine E_iload dX7_year_69 rfl ?_
        refine E_bipush (v := 6) dX7_year_71 (by decide) ?_
        refine E_idiv dX7_year_73 (by decide) ?_
        refine E_eqi (y := nI (y / 6)) (nI_d (by omega) (by decide) (by decide)) ?_
        refine E_bipush (v := 8) dX7_year_74 (by decide) ?_
        refine E_irem dX7_year_76 (by decide) ?_
        refine E_eqi (y := nI (y / 6 % 8)) (nI_r (by omega) (by decide) (by decide)) ?_
        refine E_eqi (y := 3) (by rw [hk]; rfl) ?_
        refine E_tableIn (off := 84) (tgt := 161) dX7_year_77 (by decide) (by decide) (by decide) (by decide) ?_
        refine E_aload_n dX7_year_161 rfl ?_
        refine E_aload_n dX7_year_162 rfl ?_
        refine E_iload dX7_year_163 rfl ?_
        refine E_callV (As := [.int (nI (y % 6))]) (l' := [.ref 38, .int (nI (y % 6))]) (st := [.ref 38]) dX7_year_165 kX7_108 iX7_kindle vX7_kindle (by decide) rfl rfl MX7_kindle rfl rfl (Nat.le_of_ble_eq_true rfl) (FC.use (m_kindle (d + 2) (sbu s) fl (-6) (-6) fr rs ac q n z hz (y % 6) (by omega)) rfl (L2 := [(38, .inr (7, [.ref 39, .ref 40, .int (sbu s), .int (nI q), .ref 41, .int (nI n), .ref 42, .int fl, .int (-6), .int (-6), .int fr, .int rs, .int ac, .ref 43, .ref 44, .ref 45, .ref 46, .ref 47, .ref 48, .ref 49])), (39, .inl (false, 22, (bkF s))), (40, .inl (false, 22, (bkF (nxS z 3 (y % 6) 0))))]) rfl) (Nat.le_of_ble_eq_true rfl) (fun _ _ hq9 => E_fgo ?_ hq9)
        show E _ _ 168 [.ref 38, .int (nI x), .int (nI m), .int 2, .int (nI y), .int (nI i), .int (nI (y % 6))] [.int (rsn z 3 (y % 6) 0), .ref 38] (hov hp [(38, .inr (7, [.ref 39, .ref 40, .int (sbu s), .int (nI q), .ref 41, .int (nI n), .ref 42, .int fl, .int (-6), .int (-6), .int fr, .int rs, .int ac, .ref 43, .ref 44, .ref 45, .ref 46, .ref 47, .ref 48, .ref 49])), (39, .inl (false, 22, (bkF s))), (40, .inl (false, 22, (bkF (nxS z 3 (y % 6) 0))))]) _
        refine E_puti (fs2 := [.ref 39, .ref 40, .int (sbu s), .int (nI q), .ref 41, .int (nI n), .ref 42, .int fl, .int (-6), .int (-6), .int fr, .int (rsn z 3 (y % 6) 0), .int ac, .ref 43, .ref 44, .ref 45, .ref 46, .ref 47, .ref 48, .ref 49]) (L2 := [(38, .inr (7, [.ref 39, .ref 40, .int (sbu s), .int (nI q), .ref 41, .int (nI n), .ref 42, .int fl, .int (-6), .int (-6), .int fr, .int (rsn z 3 (y % 6) 0), .int ac, .ref 43, .ref 44, .ref 45, .ref 46, .ref 47, .ref 48, .ref 49])), (39, .inl (false, 22, (bkF s))), (40, .inl (false, 22, (bkF (nxS z 3 (y % 6) 0))))]) dX7_year_168 fX7_102 fpX7_11 (by decide) rfl (Nat.le_of_ble_eq_true rfl) rfl rfl ?_
        refine E_goto (tgt := 195) dX7_year_171 (by decide) ?_
        refine E_iinc (y := nI (i + 1)) (l2 := [.ref 38, .int (nI x), .int (nI m), .int 2, .int (nI y), .int (nI (i + 1)), .int (nI (y % 6))]) dX7_year_195 rfl (nI_1 _) (by decide) rfl ?_
        refine E_goto (tgt := 43) dX7_year_198 (by decide) ?_
        have e9 := ih (.int (nI (y % 6))) fl fr (rsn z 3 (y % 6) 0)
        rw [yN_x, show yK y = 3 from (by rw [yK, hk]; rfl)] at e9
        exact e9
      · refine E_iload dX7_year_43 rfl ?_
        refine E_iload_n dX7_year_45 rfl ?_
        refine E_icmp_ge (tgt := 201) dX7_year_46 (by decide) (fun c => absurd c (nI_ge hi (by omega))) (fun _ => ?_)
        refine E_bipush (v := 75) dX7_year_49 (by decide) ?_
        refine E_iload dX7_year_51 rfl ?_
        refine E_imul dX7_year_53 ?_
        refine E_bipush (v := 74) dX7_year_54 (by decide) ?_
        refine E_iadd dX7_year_56 ?_
        refine E_ldc dX7_year_57 qX7_151 ?_
        refine E_irem dX7_year_59 (by decide) ?_
        refine E_eqi (y := nI y) (by rw [← hy]; exact yX_m hX) ?_
        refine E_istore (l2 := [.ref 38, .int (nI x), .int (nI m), .int 2, .int (nI y), .int (nI i), l6]) dX7_year_60 (by decide) rfl ?_
        refine E_iload dX7_year_62 rfl ?_
        refine E_bipush (v := 6) dX7_year_64 (by decide) ?_
        refine E_irem dX7_year_66 (by decide) ?_
        refine E_eqi (y := nI (y % 6)) (nI_r (by omega) (by decide) (by decide)) ?_
        refine E_istore (l2 := [.ref 38, .int (nI x), .int (nI m), .int 2, .int (nI y), .int (nI i), .int (nI (y % 6))]) dX7_year_67 (by decide) rfl ?_
        refine E_iload dX7_year_69 rfl ?_
        refine E_bipush (v := 6) dX7_year_71 (by decide) ?_
        refine E_idiv dX7_year_73 (by decide) ?_
        refine E_eqi (y := nI (y / 6)) (nI_d (by omega) (by decide) (by decide)) ?_
        refine E_bipush (v := 8) dX7_year_74 (by decide) ?_
        refine E_irem dX7_year_76 (by decide) ?_
        refine E_eqi (y := nI (y / 6 % 8)) (nI_r (by omega) (by decide) (by decide)) ?_
        refine E_eqi (y := 4) (by rw [hk]; rfl) ?_
        refine E_tableIn (off := 97) (tgt := 174) dX7_year_77 (by decide) (by decide) (by decide) (by decide) ?_
        refine E_aload_n dX7_year_174 rfl ?_
        refine E_aload_n dX7_year_175 rfl ?_
        refine E_iload dX7_year_176 rfl ?_
        refine E_callV (As := [.int (nI (y % 6))]) (l' := [.ref 38, .int (nI (y % 6))]) (st := [.ref 38]) dX7_year_178 kX7_111 iX7_watch vX7_watch (by decide) rfl rfl MX7_watch rfl rfl (Nat.le_of_ble_eq_true rfl) (FC.use (m_watch (d + 2) (sbu s) fl (-6) (-6) fr rs ac q n z hz (y % 6) (by omega) hbz.symm) rfl (L2 := [(38, .inr (7, [.ref 39, .ref 40, .int (sbu s), .int (nI q), .ref 41, .int (nI n), .ref 42, .int fl, .int (-6), .int (-6), .int fr, .int rs, .int ac, .ref 43, .ref 44, .ref 45, .ref 46, .ref 47, .ref 48, .ref 49])), (39, .inl (false, 22, (bkF s))), (40, .inl (false, 22, (bkF (nxS z 4 (y % 6) 0))))]) rfl) (Nat.le_of_ble_eq_true rfl) (fun _ _ hq9 => E_fgo ?_ hq9)
        show E _ _ 181 [.ref 38, .int (nI x), .int (nI m), .int 2, .int (nI y), .int (nI i), .int (nI (y % 6))] [.int (rsn z 4 (y % 6) 0), .ref 38] (hov hp [(38, .inr (7, [.ref 39, .ref 40, .int (sbu s), .int (nI q), .ref 41, .int (nI n), .ref 42, .int fl, .int (-6), .int (-6), .int fr, .int rs, .int ac, .ref 43, .ref 44, .ref 45, .ref 46, .ref 47, .ref 48, .ref 49])), (39, .inl (false, 22, (bkF s))), (40, .inl (false, 22, (bkF (nxS z 4 (y % 6) 0))))]) _
        refine E_puti (fs2 := [.ref 39, .ref 40, .int (sbu s), .int (nI q), .ref 41, .int (nI n), .ref 42, .int fl, .int (-6), .int (-6), .int fr, .int (rsn z 4 (y % 6) 0), .int ac, .ref 43, .ref 44, .ref 45, .ref 46, .ref 47, .ref 48, .ref 49]) (L2 := [(38, .inr (7, [.ref 39, .ref 40, .int (sbu s), .int (nI q), .ref 41, .int (nI n), .ref 42, .int fl, .int (-6), .int (-6), .int fr, .int (rsn z 4 (y % 6) 0), .int ac, .ref 43, .ref 44, .ref 45, .ref 46, .ref 47, .ref 48, .ref 49])), (39, .inl (false, 22, (bkF s))), (40, .inl (false, 22, (bkF (nxS z 4 (y % 6) 0))))]) dX7_year_181 fX7_102 fpX7_11 (by decide) rfl (Nat.le_of_ble_eq_true rfl) rfl rfl ?_
        refine E_goto (tgt := 195) dX7_year_184 (by decide) ?_
        refine E_iinc (y := nI (i + 1)) (l2 := [.ref 38, .int (nI x), .int (nI m), .int 2, .int (nI y), .int (nI (i + 1)), .int (nI (y % 6))]) dX7_year_195 rfl (nI_1 _) (by decide) rfl ?_
        refine E_goto (tgt := 43) dX7_year_198 (by decide) ?_
        have e9 := ih (.int (nI (y % 6))) fl fr (rsn z 4 (y % 6) 0)
        rw [yN_x, show yK y = 4 from (by rw [yK, hk]; rfl)] at e9
        exact e9
      · by_cases hn99 : sni z < 99
        · refine E_iload dX7_year_43 rfl ?_
          refine E_iload_n dX7_year_45 rfl ?_
          refine E_icmp_ge (tgt := 201) dX7_year_46 (by decide) (fun c => absurd c (nI_ge hi (by omega))) (fun _ => ?_)
          refine E_bipush (v := 75) dX7_year_49 (by decide) ?_
          refine E_iload dX7_year_51 rfl ?_
          refine E_imul dX7_year_53 ?_
          refine E_bipush (v := 74) dX7_year_54 (by decide) ?_
          refine E_iadd dX7_year_56 ?_
          refine E_ldc dX7_year_57 qX7_151 ?_
          refine E_irem dX7_year_59 (by decide) ?_
          refine E_eqi (y := nI y) (by rw [← hy]; exact yX_m hX) ?_
          refine E_istore (l2 := [.ref 38, .int (nI x), .int (nI m), .int 2, .int (nI y), .int (nI i), l6]) dX7_year_60 (by decide) rfl ?_
          refine E_iload dX7_year_62 rfl ?_
          refine E_bipush (v := 6) dX7_year_64 (by decide) ?_
          refine E_irem dX7_year_66 (by decide) ?_
          refine E_eqi (y := nI (y % 6)) (nI_r (by omega) (by decide) (by decide)) ?_
          refine E_istore (l2 := [.ref 38, .int (nI x), .int (nI m), .int 2, .int (nI y), .int (nI i), .int (nI (y % 6))]) dX7_year_67 (by decide) rfl ?_
          refine E_iload dX7_year_69 rfl ?_
          refine E_bipush (v := 6) dX7_year_71 (by decide) ?_
          refine E_idiv dX7_year_73 (by decide) ?_
          refine E_eqi (y := nI (y / 6)) (nI_d (by omega) (by decide) (by decide)) ?_
          refine E_bipush (v := 8) dX7_year_74 (by decide) ?_
          refine E_irem dX7_year_76 (by decide) ?_
          refine E_eqi (y := nI (y / 6 % 8)) (nI_r (by omega) (by decide) (by decide)) ?_
          refine E_tableOut (tgt := 187) dX7_year_77 (.inr (by rw [nI_toInt (by omega)]; omega)) (by decide) ?_
          refine E_aload_n dX7_year_187 rfl ?_
          refine E_aload_n dX7_year_188 rfl ?_
          refine E_callV (As := []) (l' := [.ref 38]) (st := [.ref 38]) dX7_year_189 kX7_99 iX7_endNight vX7_endNight (by decide) rfl rfl MX7_endNight rfl rfl (Nat.le_of_ble_eq_true rfl) (FC.use (m_night0 d (sbu s) fl (-6) (-6) fr rs ac q n z hz hn99) rfl (L2 := [(38, .inr (7, [.ref 39, .ref 40, .int (sbu s), .int (nI q), .ref 41, .int (nI n), .ref 42, .int (fl + bcI (ngF z)), .int (-6), .int (-6), .int (ngF z), .int rs, .int ac, .ref 43, .ref 44, .ref 45, .ref 46, .ref 47, .ref 48, .ref 49])), (39, .inl (false, 22, (bkF s))), (40, .inl (false, 22, (bkF (ngS z))))]) rfl) (Nat.le_of_ble_eq_true rfl) (fun _ _ hq9 => E_fgo ?_ hq9)
          show E _ _ 192 [.ref 38, .int (nI x), .int (nI m), .int 2, .int (nI y), .int (nI i), .int (nI (y % 6))] [.int (rsn z 5 0 0), .ref 38] (hov hp [(38, .inr (7, [.ref 39, .ref 40, .int (sbu s), .int (nI q), .ref 41, .int (nI n), .ref 42, .int (fl + bcI (ngF z)), .int (-6), .int (-6), .int (ngF z), .int rs, .int ac, .ref 43, .ref 44, .ref 45, .ref 46, .ref 47, .ref 48, .ref 49])), (39, .inl (false, 22, (bkF s))), (40, .inl (false, 22, (bkF (ngS z))))]) _
          refine E_puti (fs2 := [.ref 39, .ref 40, .int (sbu s), .int (nI q), .ref 41, .int (nI n), .ref 42, .int (fl + bcI (ngF z)), .int (-6), .int (-6), .int (ngF z), .int (rsn z 5 0 0), .int ac, .ref 43, .ref 44, .ref 45, .ref 46, .ref 47, .ref 48, .ref 49]) (L2 := [(38, .inr (7, [.ref 39, .ref 40, .int (sbu s), .int (nI q), .ref 41, .int (nI n), .ref 42, .int (fl + bcI (ngF z)), .int (-6), .int (-6), .int (ngF z), .int (rsn z 5 0 0), .int ac, .ref 43, .ref 44, .ref 45, .ref 46, .ref 47, .ref 48, .ref 49])), (39, .inl (false, 22, (bkF s))), (40, .inl (false, 22, (bkF (ngS z))))]) dX7_year_192 fX7_102 fpX7_11 (by decide) rfl (Nat.le_of_ble_eq_true rfl) rfl rfl ?_
          refine E_iinc (y := nI (i + 1)) (l2 := [.ref 38, .int (nI x), .int (nI m), .int 2, .int (nI y), .int (nI (i + 1)), .int (nI (y % 6))]) dX7_year_195 rfl (nI_1 _) (by decide) rfl ?_
          refine E_goto (tgt := 43) dX7_year_198 (by decide) ?_
          have e9 := ih (.int (nI (y % 6))) (fl + bcI (ngF z)) (ngF z) (rsn z 5 0 0)
          rw [yN_x, show yK y = 5 from (by rw [yK, if_neg (by omega)])] at e9
          rw [show nxS z 5 (y % 6) (nI (y / 48 % 25)) = ngS z from (nxS_0 (by simp only [rsn]; rw [if_pos hn99])).trans rfl] at e9
          exact e9
        · refine E_iload dX7_year_43 rfl ?_
          refine E_iload_n dX7_year_45 rfl ?_
          refine E_icmp_ge (tgt := 201) dX7_year_46 (by decide) (fun c => absurd c (nI_ge hi (by omega))) (fun _ => ?_)
          refine E_bipush (v := 75) dX7_year_49 (by decide) ?_
          refine E_iload dX7_year_51 rfl ?_
          refine E_imul dX7_year_53 ?_
          refine E_bipush (v := 74) dX7_year_54 (by decide) ?_
          refine E_iadd dX7_year_56 ?_
          refine E_ldc dX7_year_57 qX7_151 ?_
          refine E_irem dX7_year_59 (by decide) ?_
          refine E_eqi (y := nI y) (by rw [← hy]; exact yX_m hX) ?_
          refine E_istore (l2 := [.ref 38, .int (nI x), .int (nI m), .int 2, .int (nI y), .int (nI i), l6]) dX7_year_60 (by decide) rfl ?_
          refine E_iload dX7_year_62 rfl ?_
          refine E_bipush (v := 6) dX7_year_64 (by decide) ?_
          refine E_irem dX7_year_66 (by decide) ?_
          refine E_eqi (y := nI (y % 6)) (nI_r (by omega) (by decide) (by decide)) ?_
          refine E_istore (l2 := [.ref 38, .int (nI x), .int (nI m), .int 2, .int (nI y), .int (nI i), .int (nI (y % 6))]) dX7_year_67 (by decide) rfl ?_
          refine E_iload dX7_year_69 rfl ?_
          refine E_bipush (v := 6) dX7_year_71 (by decide) ?_
          refine E_idiv dX7_year_73 (by decide) ?_
          refine E_eqi (y := nI (y / 6)) (nI_d (by omega) (by decide) (by decide)) ?_
          refine E_bipush (v := 8) dX7_year_74 (by decide) ?_
          refine E_irem dX7_year_76 (by decide) ?_
          refine E_eqi (y := nI (y / 6 % 8)) (nI_r (by omega) (by decide) (by decide)) ?_
          refine E_tableOut (tgt := 187) dX7_year_77 (.inr (by rw [nI_toInt (by omega)]; omega)) (by decide) ?_
          refine E_aload_n dX7_year_187 rfl ?_
          refine E_aload_n dX7_year_188 rfl ?_
          refine E_callV (As := []) (l' := [.ref 38]) (st := [.ref 38]) dX7_year_189 kX7_99 iX7_endNight vX7_endNight (by decide) rfl rfl MX7_endNight rfl rfl (Nat.le_of_ble_eq_true rfl) (FC.use (m_night1 d (sbu s) fl (-6) (-6) fr rs ac q n z (n99_e hz hn99)) rfl (L2 := [(38, .inr (7, [.ref 39, .ref 40, .int (sbu s), .int (nI q), .ref 41, .int (nI n), .ref 42, .int fl, .int (-6), .int (-6), .int fr, .int rs, .int ac, .ref 43, .ref 44, .ref 45, .ref 46, .ref 47, .ref 48, .ref 49])), (39, .inl (false, 22, (bkF s))), (40, .inl (false, 22, (bkF z)))]) rfl) (Nat.le_of_ble_eq_true rfl) (fun _ _ hq9 => E_fgo ?_ hq9)
          show E _ _ 192 [.ref 38, .int (nI x), .int (nI m), .int 2, .int (nI y), .int (nI i), .int (nI (y % 6))] [.int (rsn z 5 0 0), .ref 38] (hov hp [(38, .inr (7, [.ref 39, .ref 40, .int (sbu s), .int (nI q), .ref 41, .int (nI n), .ref 42, .int fl, .int (-6), .int (-6), .int fr, .int rs, .int ac, .ref 43, .ref 44, .ref 45, .ref 46, .ref 47, .ref 48, .ref 49])), (39, .inl (false, 22, (bkF s))), (40, .inl (false, 22, (bkF z)))]) _
          refine E_puti (fs2 := [.ref 39, .ref 40, .int (sbu s), .int (nI q), .ref 41, .int (nI n), .ref 42, .int fl, .int (-6), .int (-6), .int fr, .int (rsn z 5 0 0), .int ac, .ref 43, .ref 44, .ref 45, .ref 46, .ref 47, .ref 48, .ref 49]) (L2 := [(38, .inr (7, [.ref 39, .ref 40, .int (sbu s), .int (nI q), .ref 41, .int (nI n), .ref 42, .int fl, .int (-6), .int (-6), .int fr, .int (rsn z 5 0 0), .int ac, .ref 43, .ref 44, .ref 45, .ref 46, .ref 47, .ref 48, .ref 49])), (39, .inl (false, 22, (bkF s))), (40, .inl (false, 22, (bkF z)))]) dX7_year_192 fX7_102 fpX7_11 (by decide) rfl (Nat.le_of_ble_eq_true rfl) rfl rfl ?_
          refine E_iinc (y := nI (i + 1)) (l2 := [.ref 38, .int (nI x), .int (nI m), .int 2, .int (nI y), .int (nI (i + 1)), .int (nI (y % 6))]) dX7_year_195 rfl (nI_1 _) (by decide) rfl ?_
          refine E_goto (tgt := 43) dX7_year_198 (by decide) ?_
          have e9 := ih (.int (nI (y % 6))) fl fr (rsn z 5 0 0)
          rw [yN_x, show yK y = 5 from (by rw [yK, if_neg (by omega)])] at e9
          rw [show nxS z 5 (y % 6) (nI (y / 48 % 25)) = z from nxS_1 (by simp only [rsn]; rw [if_neg hn99]; decide)] at e9
          exact e9
  refine E_iload_n dX7_year_0 rfl ?_
  refine E_iconst (v := 0) dX7_year_1 (by decide) ?_
  refine E_sipush (v := 9999) dX7_year_2 (by decide) ?_
  refine E_callS (As := [.int (nI x), .int 0, .int 9999]) (l' := [.int (nI x), .int 0, .int 9999]) (st := []) dX7_year_5 kX7_48 sX7_in MX7_in rfl rfl (Nat.le_of_ble_eq_true rfl) (FC.use (c_in (d + 3) _ _ _) rfl (L2 := [(38, .inr (7, [.ref 39, .ref 40, .int (sbu s), .int (nI q), .ref 41, .int (nI n), .ref 42, .int fl, .int fa, .int fw, .int fr, .int rs, .int ac, .ref 43, .ref 44, .ref 45, .ref 46, .ref 47, .ref 48, .ref 49])), (39, .inl (false, 22, (bkF s))), (40, .inl (false, 22, (bkF t)))]) rfl) (Nat.le_of_ble_eq_true rfl) (fun _ _ hq9 => E_fgo ?_ hq9)
  show E _ _ 8 [.ref 38, .int (nI x), .int (nI m), .int 2, .null, .null, .null] [.int (b2i (inI (nI x) 0 9999))] (hov hp [(38, .inr (7, [.ref 39, .ref 40, .int (sbu s), .int (nI q), .ref 41, .int (nI n), .ref 42, .int fl, .int fa, .int fw, .int fr, .int rs, .int ac, .ref 43, .ref 44, .ref 45, .ref 46, .ref 47, .ref 48, .ref 49])), (39, .inl (false, 22, (bkF s))), (40, .inl (false, 22, (bkF t)))]) _
  refine E_if_eq (tgt := 30) dX7_year_8 (by decide) (fun c => (b2i_x1 h0 c).elim) (fun _ => ?_)
  refine E_iload_n dX7_year_11 rfl ?_
  refine E_iconst (v := 1) dX7_year_12 (by decide) ?_
  refine E_bipush (v := 99) dX7_year_13 (by decide) ?_
  refine E_callS (As := [.int (nI m), .int 1, .int 99]) (l' := [.int (nI m), .int 1, .int 99]) (st := []) dX7_year_15 kX7_48 sX7_in MX7_in rfl rfl (Nat.le_of_ble_eq_true rfl) (FC.use (c_in (d + 3) _ _ _) rfl (L2 := [(38, .inr (7, [.ref 39, .ref 40, .int (sbu s), .int (nI q), .ref 41, .int (nI n), .ref 42, .int fl, .int fa, .int fw, .int fr, .int rs, .int ac, .ref 43, .ref 44, .ref 45, .ref 46, .ref 47, .ref 48, .ref 49])), (39, .inl (false, 22, (bkF s))), (40, .inl (false, 22, (bkF t)))]) rfl) (Nat.le_of_ble_eq_true rfl) (fun _ _ hq9 => E_fgo ?_ hq9)
  show E _ _ 18 [.ref 38, .int (nI x), .int (nI m), .int 2, .null, .null, .null] [.int (b2i (inI (nI m) 1 99))] (hov hp [(38, .inr (7, [.ref 39, .ref 40, .int (sbu s), .int (nI q), .ref 41, .int (nI n), .ref 42, .int fl, .int fa, .int fw, .int fr, .int rs, .int ac, .ref 43, .ref 44, .ref 45, .ref 46, .ref 47, .ref 48, .ref 49])), (39, .inl (false, 22, (bkF s))), (40, .inl (false, 22, (bkF t)))]) _
  refine E_if_eq (tgt := 30) dX7_year_18 (by decide) (fun c => (b2i_x1 h1 c).elim) (fun _ => ?_)
  refine E_iload_n dX7_year_21 rfl ?_
  refine E_iconst (v := 0) dX7_year_22 (by decide) ?_
  refine E_iconst (v := 2) dX7_year_23 (by decide) ?_
  refine E_callS (As := [.int 2, .int 0, .int 2]) (l' := [.int 2, .int 0, .int 2]) (st := []) dX7_year_24 kX7_48 sX7_in MX7_in rfl rfl (Nat.le_of_ble_eq_true rfl) (FC.use (c_in (d + 3) _ _ _) rfl (L2 := [(38, .inr (7, [.ref 39, .ref 40, .int (sbu s), .int (nI q), .ref 41, .int (nI n), .ref 42, .int fl, .int fa, .int fw, .int fr, .int rs, .int ac, .ref 43, .ref 44, .ref 45, .ref 46, .ref 47, .ref 48, .ref 49])), (39, .inl (false, 22, (bkF s))), (40, .inl (false, 22, (bkF t)))]) rfl) (Nat.le_of_ble_eq_true rfl) (fun _ _ hq9 => E_fgo ?_ hq9)
  show E _ _ 27 [.ref 38, .int (nI x), .int (nI m), .int 2, .null, .null, .null] [.int (b2i (inI 2 0 2))] (hov hp [(38, .inr (7, [.ref 39, .ref 40, .int (sbu s), .int (nI q), .ref 41, .int (nI n), .ref 42, .int fl, .int fa, .int fw, .int fr, .int rs, .int ac, .ref 43, .ref 44, .ref 45, .ref 46, .ref 47, .ref 48, .ref 49])), (39, .inl (false, 22, (bkF s))), (40, .inl (false, 22, (bkF t)))]) _
  refine E_if_ne (tgt := 33) dX7_year_27 (by decide) (fun _ => ?_) (fun c => (b2i_x1 (by decide) c).elim)
  refine E_aload_n dX7_year_33 rfl ?_
  refine E_callV (As := []) (l' := [.ref 38, .null]) (st := []) dX7_year_34 kX7_93 iX7_asNow vX7_asNow (by decide) rfl rfl MX7_asNow rfl rfl (Nat.le_of_ble_eq_true rfl) (FC.use (c_asNow (d + 3) (sbu s) fl fa fw fr rs ac q n s t) rfl (L2 := [(38, .inr (7, [.ref 39, .ref 40, .int (sbu s), .int (nI q), .ref 41, .int (nI n), .ref 42, .int 0, .int (-6), .int (-6), .int fr, .int rs, .int ac, .ref 43, .ref 44, .ref 45, .ref 46, .ref 47, .ref 48, .ref 49])), (39, .inl (false, 22, (bkF s))), (40, .inl (false, 22, (bkF s)))]) rfl) (Nat.le_of_ble_eq_true rfl) (fun _ _ hq9 => E_fgo ?_ hq9)
  show E _ _ 37 [.ref 38, .int (nI x), .int (nI m), .int 2, .null, .null, .null] [] (hov hp [(38, .inr (7, [.ref 39, .ref 40, .int (sbu s), .int (nI q), .ref 41, .int (nI n), .ref 42, .int 0, .int (-6), .int (-6), .int fr, .int rs, .int ac, .ref 43, .ref 44, .ref 45, .ref 46, .ref 47, .ref 48, .ref 49])), (39, .inl (false, 22, (bkF s))), (40, .inl (false, 22, (bkF s)))]) _
  refine E_iload_n dX7_year_37 rfl ?_
  refine E_istore (l2 := [.ref 38, .int (nI x), .int (nI m), .int 2, .int (nI x), .null, .null]) dX7_year_38 (by decide) rfl ?_
  refine E_iconst (v := 0) dX7_year_40 (by decide) ?_
  refine E_istore (l2 := [.ref 38, .int (nI x), .int (nI m), .int 2, .int (nI x), .int 0, .null]) dX7_year_41 (by decide) rfl ?_
  exact L 0 (Nat.zero_le _) _ _ _ _
