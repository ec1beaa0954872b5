theorem bk_out {s : CS} {j : Nat} (h : 22 ≤ j) : bkF s j = 0 := by
  simp only [bkF]
  rw [if_neg (by omega), if_neg (by omega), if_neg (by omega), if_neg (by omega), if_neg (by omega), if_neg (by omega), if_neg (by omega)]
set_option maxRecDepth 100000 in
theorem tin1 : ∀ k, k < 10 → (inI (nI k + 1) 0 9 = true ↔ nI k < 9) := by decide +kernel
set_option maxRecDepth 100000 in
theorem tin2 : ∀ k, k < 10 → (inI (nI k + (-1)) 0 9 = true ↔ 0 < nI k) := by decide +kernel
theorem tin1_t {x : Int32} (h : Bd 10 x) (c : inI (x + 1) 0 9 = true) : x < 9 := by obtain ⟨k, hk, rfl⟩ := h; exact (tin1 k hk).mp c
theorem tin1_f {x : Int32} (h : Bd 10 x) (c : inI (x + 1) 0 9 = false) : ¬ x < 9 := by obtain ⟨k, hk, rfl⟩ := h; intro e; rw [(tin1 k hk).mpr e] at c; cases c
theorem tin2_t {x : Int32} (h : Bd 10 x) (c : inI (x + (-1)) 0 9 = true) : 0 < x := by obtain ⟨k, hk, rfl⟩ := h; exact (tin2 k hk).mp c
theorem tin2_f {x : Int32} (h : Bd 10 x) (c : inI (x + (-1)) 0 9 = false) : ¬ 0 < x := by obtain ⟨k, hk, rfl⟩ := h; intro e; rw [(tin2 k hk).mpr e] at c; cases c

set_option maxHeartbeats 4000000 in
set_option maxRecDepth 20000 in
theorem c_in (d : Nat) (x lo hi : Int32) : FC YX7_in d [.int x, .int lo, .int hi] [] (some (.int (b2i (inI x lo hi)))) [] := by
  intro hp
  refine E_iload_n dX7_in_0 rfl ?_
  refine E_iload_n dX7_in_1 rfl ?_
  refine E_icmp_lt (tgt := 14) dX7_in_2 (by decide) (fun c2 => ?_) (fun c2 => ?_)
  · rw [← Int32.not_le] at c2
    refine E_iconst (v := 0) dX7_in_14 (by decide) ?_
    exact E_iretf dX7_in_15 rfl (b2i_nar _) (by simp [inI, b2i, c2]) rfl
  · rw [Int32.not_lt] at c2
    refine E_iload_n dX7_in_5 rfl ?_
    refine E_iload_n dX7_in_6 rfl ?_
    refine E_icmp_gt (tgt := 14) dX7_in_7 (by decide) (fun c7 => ?_) (fun c7 => ?_)
    · rw [← Int32.not_le] at c7
      refine E_iconst (v := 0) dX7_in_14 (by decide) ?_
      exact E_iretf dX7_in_15 rfl (b2i_nar _) (by simp [inI, b2i, c2, c7]) rfl
    · rw [Int32.not_lt] at c7
      refine E_iconst (v := 1) dX7_in_10 (by decide) ?_
      refine E_goto (tgt := 15) dX7_in_11 (by decide) ?_
      exact E_iretf dX7_in_15 rfl (b2i_nar _) (by simp [inI, b2i, c2, c7]) rfl

set_option maxHeartbeats 4000000 in
set_option maxRecDepth 20000 in
theorem c_has (d : Nat) (x p : Int32) : FC YX7_has d [.int x, .int p] [] (some (.int (b2i (hbt x p)))) [] := by
  intro hp
  refine E_iload_n dX7_has_0 rfl ?_
  refine E_iload_n dX7_has_1 rfl ?_
  refine E_ishr dX7_has_2 ?_
  refine E_iconst (v := 1) dX7_has_3 (by decide) ?_
  refine E_iand dX7_has_4 ?_
  refine E_iconst (v := 1) dX7_has_5 (by decide) ?_
  refine E_icmp_ne (tgt := 13) dX7_has_6 (by decide) (fun c6 => ?_) (fun c6 => ?_)
  · refine E_iconst (v := 0) dX7_has_13 (by decide) ?_
    exact E_iretf dX7_has_14 rfl (b2i_nar _) (b2i_f (has_f c6)) rfl
  · refine E_iconst (v := 1) dX7_has_9 (by decide) ?_
    refine E_goto (tgt := 14) dX7_has_10 (by decide) ?_
    exact E_iretf dX7_has_14 rfl (b2i_nar _) (b2i_t (has_t c6)) rfl

set_option maxHeartbeats 4000000 in
set_option maxRecDepth 20000 in
theorem c_bits (d : Nat) (x : Int32) : FC YX7_bits d [.int x, .null, .null] [] (some (.int (bitN x 8))) [] := by
  intro hp
  refine E_iconst (v := 0) dX7_bits_0 (by decide) ?_
  refine E_istore_n (l2 := [.int x, .int 0, .null]) dX7_bits_1 rfl (by decide) rfl ?_
  refine E_iconst (v := 0) dX7_bits_2 (by decide) ?_
  refine E_istore_n (l2 := [.int x, .int 0, .int 0]) dX7_bits_3 rfl (by decide) rfl ?_
  have L4 : ∀ i, i ≤ 8 → E YX7_bits d 4 [.int x, .int (bitN x i), .int (nI i)] [] (hov hp []) (fun v h' => v = some (.int (bitN x 8)) ∧ h' = hov hp []) := by
    refine down 8 ?_ ?_
    · refine E_iload_n dX7_bits_4 rfl ?_
      refine E_bipush (v := 8) dX7_bits_5 (by decide) ?_
      refine E_icmp_ge (tgt := 24) dX7_bits_7 (by decide) (fun _ => ?_) (fun c => absurd (by decide) c)
      refine E_iload_n dX7_bits_24 rfl ?_
      exact E_iretf dX7_bits_25 rfl rfl rfl rfl
    · intro i hi ih
      refine E_iload_n dX7_bits_4 rfl ?_
      refine E_bipush (v := 8) dX7_bits_5 (by decide) ?_
      refine E_icmp_ge (tgt := 24) dX7_bits_7 (by decide) (fun c => absurd c (cI_nle (n := 8) rfl hi (by decide))) (fun _ => ?_)
      refine E_iload_n dX7_bits_10 rfl ?_
      refine E_iload_n dX7_bits_11 rfl ?_
      refine E_iload_n dX7_bits_12 rfl ?_
      refine E_ishr dX7_bits_13 ?_
      refine E_iconst (v := 1) dX7_bits_14 (by decide) ?_
      refine E_iand dX7_bits_15 ?_
      refine E_iadd dX7_bits_16 ?_
      refine E_istore_n (l2 := [.int x, .int ((bitN x i) + ((x >>> (nI i &&& 31)) &&& 1)), .int (nI i)]) dX7_bits_17 rfl (by decide) rfl ?_
      refine E_iinc (y := nI (i + 1)) (l2 := [.int x, .int ((bitN x i) + ((x >>> (nI i &&& 31)) &&& 1)), .int (nI (i + 1))]) dX7_bits_18 rfl (nI_1 _) (by decide) rfl ?_
      refine E_goto (tgt := 4) dX7_bits_21 (by decide) ?_
      exact ih
  exact L4 0 (by decide)

set_option maxHeartbeats 4000000 in
set_option maxRecDepth 20000 in
theorem c_isHM (d : Nat) (x : Int32) : FC YX7_isHeap (d + 1) [.int x] [] (some (.int (b2i (inI x 0 5)))) [] := by
  intro hp
  refine E_iload_n dX7_isHeap_0 rfl ?_
  refine E_iconst (v := 0) dX7_isHeap_1 (by decide) ?_
  refine E_iconst (v := 5) dX7_isHeap_2 (by decide) ?_
  refine E_callS (As := [.int x, .int 0, .int 5]) (l' := [.int x, .int 0, .int 5]) (st := []) dX7_isHeap_3 kX7_48 sX7_in MX7_in rfl rfl (Nat.le_of_ble_eq_true rfl) (FC.use (c_in d _ _ _) rfl (L2 := []) rfl) (Nat.le_of_ble_eq_true rfl) (fun _ _ hq9 => E_fgo ?_ hq9)
  show E _ _ 6 [.int x] [.int (b2i (inI x 0 5))] (hov hp []) _
  exact E_iretf dX7_isHeap_6 rfl (b2i_nar _) rfl rfl

set_option maxHeartbeats 4000000 in
set_option maxRecDepth 20000 in
theorem c_off (d : Nat) (a b : Int32) : FC YX7_off d [.int a, .int b] [] (some (.int (offI a b))) [] := by
  intro hp
  refine E_iload_n dX7_off_0 rfl ?_
  refine E_iload_n dX7_off_1 rfl ?_
  refine E_icmp_le (tgt := 11) dX7_off_2 (by decide) (fun c2 => ?_) (fun c2 => ?_)
  · rw [← Int32.not_lt] at c2
    refine E_iload_n dX7_off_11 rfl ?_
    refine E_iload_n dX7_off_12 rfl ?_
    refine E_isub dX7_off_13 ?_
    exact E_iretf dX7_off_14 rfl rfl (by simp [offI, c2]) rfl
  · rw [Int32.not_le] at c2
    refine E_iload_n dX7_off_5 rfl ?_
    refine E_iload_n dX7_off_6 rfl ?_
    refine E_isub dX7_off_7 ?_
    refine E_goto (tgt := 14) dX7_off_8 (by decide) ?_
    exact E_iretf dX7_off_14 rfl rfl (by simp [offI, c2]) rfl

set_option maxHeartbeats 4000000 in
set_option maxRecDepth 20000 in
theorem c_nrM (d : Nat) (a b : Int32) : FC YX7_areNear (d + 1) [.int a, .int b] [] (some (.int (b2i (nrM a b)))) [] := by
  intro hp
  refine E_iload_n dX7_areNear_0 rfl ?_
  refine E_if_lt (tgt := 35) dX7_areNear_1 (by decide) (fun c1 => ?_) (fun c1 => ?_)
  · refine E_iconst (v := 0) dX7_areNear_35 (by decide) ?_
    exact E_iretf dX7_areNear_36 rfl (b2i_nar _) (by simp only [nrM]; simp [b2i, c1]) rfl
  · refine E_iload_n dX7_areNear_4 rfl ?_
    refine E_if_lt (tgt := 35) dX7_areNear_5 (by decide) (fun c5 => ?_) (fun c5 => ?_)
    · refine E_iconst (v := 0) dX7_areNear_35 (by decide) ?_
      exact E_iretf dX7_areNear_36 rfl (b2i_nar _) (by simp only [nrM]; simp [b2i, c1, c5]) rfl
    · refine E_iload_n dX7_areNear_8 rfl ?_
      refine E_iconst (v := 5) dX7_areNear_9 (by decide) ?_
      refine E_idiv dX7_areNear_10 (by decide) ?_
      refine E_iload_n dX7_areNear_11 rfl ?_
      refine E_iconst (v := 5) dX7_areNear_12 (by decide) ?_
      refine E_idiv dX7_areNear_13 (by decide) ?_
      refine E_callS (As := [.int (a / 5), .int (b / 5)]) (l' := [.int (a / 5), .int (b / 5)]) (st := []) dX7_areNear_14 kX7_76 sX7_off MX7_off rfl rfl (Nat.le_of_ble_eq_true rfl) (FC.use (c_off d _ _) rfl (L2 := []) rfl) (Nat.le_of_ble_eq_true rfl) (fun _ _ hq9 => E_fgo ?_ hq9)
      show E _ _ 17 [.int a, .int b] [.int (offI (a / 5) (b / 5))] (hov hp []) _
      refine E_iload_n dX7_areNear_17 rfl ?_
      refine E_iconst (v := 5) dX7_areNear_18 (by decide) ?_
      refine E_irem dX7_areNear_19 (by decide) ?_
      refine E_iload_n dX7_areNear_20 rfl ?_
      refine E_iconst (v := 5) dX7_areNear_21 (by decide) ?_
      refine E_irem dX7_areNear_22 (by decide) ?_
      refine E_callS (As := [.int (rmI a 5), .int (rmI b 5)]) (l' := [.int (rmI a 5), .int (rmI b 5)]) (st := [.int (offI (a / 5) (b / 5))]) dX7_areNear_23 kX7_76 sX7_off MX7_off rfl rfl (Nat.le_of_ble_eq_true rfl) (FC.use (c_off d _ _) rfl (L2 := []) rfl) (Nat.le_of_ble_eq_true rfl) (fun _ _ hq9 => E_fgo ?_ hq9)
      show E _ _ 26 [.int a, .int b] [.int (offI (rmI a 5) (rmI b 5)), .int (offI (a / 5) (b / 5))] (hov hp []) _
      refine E_iadd dX7_areNear_26 ?_
      refine E_iconst (v := 3) dX7_areNear_27 (by decide) ?_
      refine E_icmp_ge (tgt := 35) dX7_areNear_28 (by decide) (fun c28 => ?_) (fun c28 => ?_)
      · rw [← Int32.not_lt] at c28
        refine E_iconst (v := 0) dX7_areNear_35 (by decide) ?_
        exact E_iretf dX7_areNear_36 rfl (b2i_nar _) (by simp only [nrM]; simp [b2i, c1, c5, c28]) rfl
      · rw [Int32.not_le] at c28
        refine E_iconst (v := 1) dX7_areNear_31 (by decide) ?_
        refine E_goto (tgt := 36) dX7_areNear_32 (by decide) ?_
        exact E_iretf dX7_areNear_36 rfl (b2i_nar _) (by simp only [nrM]; simp [b2i, c1, c5, c28]) rfl

set_option maxHeartbeats 4000000 in
set_option maxRecDepth 20000 in
theorem c_asNow (d : Nat) (bu fl fa fw fr rs ac : Int32) (q n : Nat) (s t : CS) : FC YX7_asNow d [.ref 38, .null] [(38, .inr (7, [.ref 39, .ref 40, .int bu, .int (nI q), .ref 41, .int (nI n), .ref 42, .int fl, .int fa, .int fw, .int fr, .int rs, .int ac, .ref 43, .ref 44, .ref 45, .ref 46, .ref 47, .ref 48, .ref 49])), (39, .inl (false, 22, (bkF s))), (40, .inl (false, 22, (bkF t)))] (none) [(38, .inr (7, [.ref 39, .ref 40, .int bu, .int (nI q), .ref 41, .int (nI n), .ref 42, .int 0, .int (-6), .int (-6), .int fr, .int rs, .int ac, .ref 43, .ref 44, .ref 45, .ref 46, .ref 47, .ref 48, .ref 49])), (39, .inl (false, 22, (bkF s))), (40, .inl (false, 22, (bkF s)))] := by
  intro hp
  refine E_iconst (v := 0) dX7_asNow_0 (by decide) ?_
  refine E_istore_n (l2 := [.ref 38, .int 0]) dX7_asNow_1 rfl (by decide) rfl ?_
  have L2 : ∀ i, i ≤ 22 → E YX7_asNow d 2 [.ref 38, .int (nI i)] [] (hov hp [(38, .inr (7, [.ref 39, .ref 40, .int bu, .int (nI q), .ref 41, .int (nI n), .ref 42, .int fl, .int fa, .int fw, .int fr, .int rs, .int ac, .ref 43, .ref 44, .ref 45, .ref 46, .ref 47, .ref 48, .ref 49])), (39, .inl (false, 22, (bkF s))), (40, .inl (false, 22, (cpy (bkF t) (bkF s) i)))]) (fun v h' => v = none ∧ h' = hov hp [(38, .inr (7, [.ref 39, .ref 40, .int bu, .int (nI q), .ref 41, .int (nI n), .ref 42, .int 0, .int (-6), .int (-6), .int fr, .int rs, .int ac, .ref 43, .ref 44, .ref 45, .ref 46, .ref 47, .ref 48, .ref 49])), (39, .inl (false, 22, (bkF s))), (40, .inl (false, 22, (bkF s)))]) := by
    refine down 22 ?_ ?_
    · refine E_iload_n dX7_asNow_2 rfl ?_
      refine E_bipush (v := 22) dX7_asNow_3 (by decide) ?_
      refine E_icmp_ge (tgt := 26) dX7_asNow_5 (by decide) (fun _ => ?_) (fun c => absurd (by decide) c)
      refine E_aload_n dX7_asNow_26 rfl ?_
      refine E_iconst (v := 0) dX7_asNow_27 (by decide) ?_
      refine E_puti (fs2 := [.ref 39, .ref 40, .int bu, .int (nI q), .ref 41, .int (nI n), .ref 42, .int 0, .int fa, .int fw, .int fr, .int rs, .int ac, .ref 43, .ref 44, .ref 45, .ref 46, .ref 47, .ref 48, .ref 49]) (L2 := [(38, .inr (7, [.ref 39, .ref 40, .int bu, .int (nI q), .ref 41, .int (nI n), .ref 42, .int 0, .int fa, .int fw, .int fr, .int rs, .int ac, .ref 43, .ref 44, .ref 45, .ref 46, .ref 47, .ref 48, .ref 49])), (39, .inl (false, 22, (bkF s))), (40, .inl (false, 22, (cpy (bkF t) (bkF s) 22)))]) dX7_asNow_28 fX7_67 fpX7_7 (by decide) rfl (Nat.le_of_ble_eq_true rfl) rfl rfl ?_
      refine E_aload_n dX7_asNow_31 rfl ?_
      refine E_bipush (v := (-6)) dX7_asNow_32 (by decide) ?_
      refine E_puti (fs2 := [.ref 39, .ref 40, .int bu, .int (nI q), .ref 41, .int (nI n), .ref 42, .int 0, .int (-6), .int fw, .int fr, .int rs, .int ac, .ref 43, .ref 44, .ref 45, .ref 46, .ref 47, .ref 48, .ref 49]) (L2 := [(38, .inr (7, [.ref 39, .ref 40, .int bu, .int (nI q), .ref 41, .int (nI n), .ref 42, .int 0, .int (-6), .int fw, .int fr, .int rs, .int ac, .ref 43, .ref 44, .ref 45, .ref 46, .ref 47, .ref 48, .ref 49])), (39, .inl (false, 22, (bkF s))), (40, .inl (false, 22, (cpy (bkF t) (bkF s) 22)))]) dX7_asNow_34 fX7_70 fpX7_8 (by decide) rfl (Nat.le_of_ble_eq_true rfl) rfl rfl ?_
      refine E_aload_n dX7_asNow_37 rfl ?_
      refine E_bipush (v := (-6)) dX7_asNow_38 (by decide) ?_
      refine E_puti (fs2 := [.ref 39, .ref 40, .int bu, .int (nI q), .ref 41, .int (nI n), .ref 42, .int 0, .int (-6), .int (-6), .int fr, .int rs, .int ac, .ref 43, .ref 44, .ref 45, .ref 46, .ref 47, .ref 48, .ref 49]) (L2 := [(38, .inr (7, [.ref 39, .ref 40, .int bu, .int (nI q), .ref 41, .int (nI n), .ref 42, .int 0, .int (-6), .int (-6), .int fr, .int rs, .int ac, .ref 43, .ref 44, .ref 45, .ref 46, .ref 47, .ref 48, .ref 49])), (39, .inl (false, 22, (bkF s))), (40, .inl (false, 22, (cpy (bkF t) (bkF s) 22)))]) dX7_asNow_40 fX7_73 fpX7_9 (by decide) rfl (Nat.le_of_ble_eq_true rfl) rfl rfl ?_
      exact E_vretf dX7_asNow_43 rfl (by rw [cpy_all (fun j hj => (bk_out hj).trans (bk_out hj).symm)])
    · intro i hi ih
      refine E_iload_n dX7_asNow_2 rfl ?_
      refine E_bipush (v := 22) dX7_asNow_3 (by decide) ?_
      refine E_icmp_ge (tgt := 26) dX7_asNow_5 (by decide) (fun c => absurd c (cI_nle (n := 22) rfl hi (by decide))) (fun _ => ?_)
      refine E_aload_n dX7_asNow_8 rfl ?_
      refine E_get dX7_asNow_9 fX7_13 (by decide) rfl rfl ?_
      refine E_iload_n dX7_asNow_12 rfl ?_
      refine E_aload_n dX7_asNow_13 rfl ?_
      refine E_get dX7_asNow_14 fX7_7 (by decide) rfl rfl ?_
      refine E_iload_n dX7_asNow_17 rfl ?_
      refine E_ialdN (j := i) dX7_asNow_18 (by decide) rfl (by omega) (by decide) ?_
      refine E_iastN (j := i) (f2 := cpy (bkF t) (bkF s) (i + 1)) (L2 := [(38, .inr (7, [.ref 39, .ref 40, .int bu, .int (nI q), .ref 41, .int (nI n), .ref 42, .int fl, .int fa, .int fw, .int fr, .int rs, .int ac, .ref 43, .ref 44, .ref 45, .ref 46, .ref 47, .ref 48, .ref 49])), (39, .inl (false, 22, (bkF s))), (40, .inl (false, 22, (cpy (bkF t) (bkF s) (i + 1))))]) dX7_asNow_19 (by decide) rfl (by omega) (by decide) (cpy_s _ _ _) rfl ?_
      refine E_iinc (y := nI (i + 1)) (l2 := [.ref 38, .int (nI (i + 1))]) dX7_asNow_20 rfl (nI_1 _) (by decide) rfl ?_
      refine E_goto (tgt := 2) dX7_asNow_23 (by decide) ?_
      exact ih
  have e0 := L2 0 (by decide)
  rw [cpy_0] at e0
  exact e0

set_option maxHeartbeats 4000000 in
set_option maxRecDepth 20000 in
theorem m_stack (d : Nat) (bu fl fa fw fr rs ac : Int32) (q n : Nat) (t : CS) (h : Nat) (hh : h < 6) (c : Int32) : FC YX7_stack d [.ref 38, .int (nI h), .int c, .null] [(38, .inr (7, [.ref 39, .ref 40, .int bu, .int (nI q), .ref 41, .int (nI n), .ref 42, .int fl, .int fa, .int fw, .int fr, .int rs, .int ac, .ref 43, .ref 44, .ref 45, .ref 46, .ref 47, .ref 48, .ref 49])), (40, .inl (false, 22, (bkF t)))] (some (.int (rsn t 0 h c))) [(38, .inr (7, [.ref 39, .ref 40, .int bu, .int (nI q), .ref 41, .int (nI n), .ref 42, .int fl, .int fa, .int fw, .int fr, .int rs, .int ac, .ref 43, .ref 44, .ref 45, .ref 46, .ref 47, .ref 48, .ref 49])), (40, .inl (false, 22, (bkF (nxS t 0 h c))))] := by
  intro hp
  refine E_iconst (v := 0) dX7_stack_0 (by decide) ?_
  refine E_istore_n (l2 := [.ref 38, .int (nI h), .int c, .int 0]) dX7_stack_1 rfl (by decide) rfl ?_
  have L : ∀ i, i ≤ 6 → (∀ x, x < i → takP (sce t) c h x = false) → E YX7_stack d 2 [.ref 38, .int (nI h), .int c, .int (nI i)] [] (hov hp [(38, .inr (7, [.ref 39, .ref 40, .int bu, .int (nI q), .ref 41, .int (nI n), .ref 42, .int fl, .int fa, .int fw, .int fr, .int rs, .int ac, .ref 43, .ref 44, .ref 45, .ref 46, .ref 47, .ref 48, .ref 49])), (40, .inl (false, 22, (bkF t)))]) (fun v h' => v = some (.int (rsn t 0 h c)) ∧ h' = hov hp [(38, .inr (7, [.ref 39, .ref 40, .int bu, .int (nI q), .ref 41, .int (nI n), .ref 42, .int fl, .int fa, .int fw, .int fr, .int rs, .int ac, .ref 43, .ref 44, .ref 45, .ref 46, .ref 47, .ref 48, .ref 49])), (40, .inl (false, 22, (bkF (nxS t 0 h c))))]) := by
    refine down 6 ?_ ?_
    · intro hno
      refine E_iload_n dX7_stack_2 rfl ?_
      refine E_bipush (v := 6) dX7_stack_3 (by decide) ?_
      refine E_icmp_ge (tgt := 34) dX7_stack_5 (by decide) (fun _ => ?_) (fun c => absurd (by decide) c)
      refine E_aload_n dX7_stack_34 rfl ?_
      refine E_get dX7_stack_35 fX7_13 (by decide) rfl rfl ?_
      refine E_iload_n dX7_stack_38 rfl ?_
      refine E_ialdN (j := h) dX7_stack_39 (by decide) rfl (by omega) (by decide) ?_
      refine E_eqi (y := she t h) (bk_h hh) ?_
      refine E_if_le (tgt := 45) dX7_stack_40 (by decide) (fun c40 => ?_) (fun c40 => ?_)
      · rw [← Int32.not_lt] at c40
        refine E_aload_n dX7_stack_45 rfl ?_
        refine E_get dX7_stack_46 fX7_13 (by decide) rfl rfl ?_
        refine E_bipush (v := 12) dX7_stack_49 (by decide) ?_
        refine E_iload_n dX7_stack_51 rfl ?_
        refine E_iadd dX7_stack_52 ?_
        refine E_eqi (y := nI (12 + h)) (nI_add 12 _) ?_
        refine E_iload_n dX7_stack_53 rfl ?_
        refine E_iastN (j := 12 + h) (f2 := bkF (mkS (upd (sce t) h c) (she t) (stu t) (skn t) (sdr t) (swa t) (sbu t) (sni t))) (L2 := [(38, .inr (7, [.ref 39, .ref 40, .int bu, .int (nI q), .ref 41, .int (nI n), .ref 42, .int fl, .int fa, .int fw, .int fr, .int rs, .int ac, .ref 43, .ref 44, .ref 45, .ref 46, .ref 47, .ref 48, .ref 49])), (40, .inl (false, 22, (bkF (mkS (upd (sce t) h c) (she t) (stu t) (skn t) (sdr t) (swa t) (sbu t) (sni t)))))]) dX7_stack_54 (by decide) rfl (by omega) (by decide) (bu_c hh) rfl ?_
        refine E_aload_n dX7_stack_55 rfl ?_
        refine E_get dX7_stack_56 fX7_13 (by decide) rfl rfl ?_
        refine E_bipush (v := 20) dX7_stack_59 (by decide) ?_
        refine E_dup2 dX7_stack_61 rfl rfl ?_
        refine E_ialdN (j := 20) dX7_stack_62 (by decide) rfl (by omega) (by decide) ?_
        refine E_eqi (y := sdr t) rfl ?_
        refine E_iconst (v := 1) dX7_stack_63 (by decide) ?_
        refine E_iload_n dX7_stack_64 rfl ?_
        refine E_ishl dX7_stack_65 ?_
        refine E_iconst (v := (-1)) dX7_stack_66 (by decide) ?_
        refine E_ixor dX7_stack_67 ?_
        refine E_iand dX7_stack_68 ?_
        refine E_iastN (j := 20) (f2 := bkF (mkS (upd (sce t) h c) (she t) (stu t) (skn t) (offB (sdr t) h) (swa t) (sbu t) (sni t))) (L2 := [(38, .inr (7, [.ref 39, .ref 40, .int bu, .int (nI q), .ref 41, .int (nI n), .ref 42, .int fl, .int fa, .int fw, .int fr, .int rs, .int ac, .ref 43, .ref 44, .ref 45, .ref 46, .ref 47, .ref 48, .ref 49])), (40, .inl (false, 22, (bkF (mkS (upd (sce t) h c) (she t) (stu t) (skn t) (offB (sdr t) h) (swa t) (sbu t) (sni t)))))]) dX7_stack_69 (by decide) rfl (by omega) (by decide) bu_20 rfl ?_
        refine E_iconst (v := 0) dX7_stack_70 (by decide) ?_
        have hr : rsn t 0 h c = 0 := by simp only [rsn]; rw [if_neg (by rw [anyB_f hno]; decide), if_neg c40]
        exact E_iretf dX7_stack_71 rfl rfl hr.symm (by rw [nxS_0 hr]; rfl)
      · rw [Int32.not_le] at c40
        refine E_iconst (v := 3) dX7_stack_43 (by decide) ?_
        have hr : rsn t 0 h c = 3 := by simp only [rsn]; rw [if_neg (by rw [anyB_f hno]; decide), if_pos c40]
        exact E_iretf dX7_stack_44 rfl rfl hr.symm (by rw [nxS_1 (by rw [hr]; decide)])
    · intro i hi ih hno
      refine E_iload_n dX7_stack_2 rfl ?_
      refine E_bipush (v := 6) dX7_stack_3 (by decide) ?_
      refine E_icmp_ge (tgt := 34) dX7_stack_5 (by decide) (fun c => absurd c (cI_nle (n := 6) rfl hi (by decide))) (fun _ => ?_)
      refine E_iload_n dX7_stack_8 rfl ?_
      refine E_iload_n dX7_stack_9 rfl ?_
      refine E_icmp_eq (tgt := 28) dX7_stack_10 (by decide) (fun c10 => ?_) (fun c10 => ?_)
      · have cb10 : i = h := nI_inj (by omega) (by omega) c10
        refine E_iinc (y := nI (i + 1)) (l2 := [.ref 38, .int (nI h), .int c, .int (nI (i + 1))]) dX7_stack_28 rfl (nI_1 _) (by decide) rfl ?_
        refine E_goto (tgt := 2) dX7_stack_31 (by decide) ?_
        exact ih (fun x hx => by rcases Nat.lt_succ_iff_lt_or_eq.mp hx with e | e; exact hno x e; subst e; simp [takP, cb10])
      · have cb10 : ¬ i = h := fun h => c10 (by rw [h])
        refine E_aload_n dX7_stack_13 rfl ?_
        refine E_get dX7_stack_14 fX7_13 (by decide) rfl rfl ?_
        refine E_bipush (v := 12) dX7_stack_17 (by decide) ?_
        refine E_iload_n dX7_stack_19 rfl ?_
        refine E_iadd dX7_stack_20 ?_
        refine E_eqi (y := nI (12 + i)) (nI_add 12 _) ?_
        refine E_ialdN (j := 12 + i) dX7_stack_21 (by decide) rfl (by omega) (by decide) ?_
        refine E_eqi (y := sce t i) (bk_c hi) ?_
        refine E_iload_n dX7_stack_22 rfl ?_
        refine E_icmp_ne (tgt := 28) dX7_stack_23 (by decide) (fun c23 => ?_) (fun c23 => ?_)
        · refine E_iinc (y := nI (i + 1)) (l2 := [.ref 38, .int (nI h), .int c, .int (nI (i + 1))]) dX7_stack_28 rfl (nI_1 _) (by decide) rfl ?_
          refine E_goto (tgt := 2) dX7_stack_31 (by decide) ?_
          exact ih (fun x hx => by rcases Nat.lt_succ_iff_lt_or_eq.mp hx with e | e; exact hno x e; subst e; simp [takP, c23])
        · refine E_iconst (v := 2) dX7_stack_26 (by decide) ?_
          have hr : rsn t 0 h c = 2 := by simp only [rsn]; rw [if_pos (anyB_t (p := takP (sce t) c h) hi (by simp [takP, cb10, c23]))]
          exact E_iretf dX7_stack_27 rfl rfl hr.symm (by rw [nxS_1 (by rw [hr]; decide)])
  exact L 0 (by decide) (fun x hx => by omega)

set_option maxHeartbeats 4000000 in
set_option maxRecDepth 20000 in
theorem m_turf1 (d : Nat) (bu fl fa fw fr rs ac : Int32) (q n : Nat) (t : CS) (hs : OkS t) (h : Nat) (hh : h < 6) : FC YX7_turf (d + 1) [.ref 38, .int (nI h), .int 1] [(38, .inr (7, [.ref 39, .ref 40, .int bu, .int (nI q), .ref 41, .int (nI n), .ref 42, .int fl, .int fa, .int fw, .int fr, .int rs, .int ac, .ref 43, .ref 44, .ref 45, .ref 46, .ref 47, .ref 48, .ref 49])), (40, .inl (false, 22, (bkF t)))] (some (.int (rsn t 1 h 0))) [(38, .inr (7, [.ref 39, .ref 40, .int bu, .int (nI q), .ref 41, .int (nI n), .ref 42, .int fl, .int fa, .int fw, .int fr, .int rs, .int ac, .ref 43, .ref 44, .ref 45, .ref 46, .ref 47, .ref 48, .ref 49])), (40, .inl (false, 22, (bkF (nxS t 1 h 0))))] := by
  intro hp
  refine E_aload_n dX7_turf_0 rfl ?_
  refine E_get dX7_turf_1 fX7_13 (by decide) rfl rfl ?_
  refine E_bipush (v := 12) dX7_turf_4 (by decide) ?_
  refine E_iload_n dX7_turf_6 rfl ?_
  refine E_iadd dX7_turf_7 ?_
  refine E_eqi (y := nI (12 + h)) (nI_add 12 _) ?_
  refine E_ialdN (j := 12 + h) dX7_turf_8 (by decide) rfl (by omega) (by decide) ?_
  refine E_eqi (y := sce t h) (bk_c hh) ?_
  refine E_if_ge (tgt := 14) dX7_turf_9 (by decide) (fun c9 => ?_) (fun c9 => ?_)
  · have cn : ¬ sce t h = -6 := fun e => absurd ((Cv_neg (hs.1 h hh)).mp e) (Int32.not_lt.mpr c9)
    refine E_aload_n dX7_turf_14 rfl ?_
    refine E_get dX7_turf_15 fX7_13 (by decide) rfl rfl ?_
    refine E_bipush (v := 6) dX7_turf_18 (by decide) ?_
    refine E_iload_n dX7_turf_20 rfl ?_
    refine E_iadd dX7_turf_21 ?_
    refine E_eqi (y := nI (6 + h)) (nI_add 6 _) ?_
    refine E_ialdN (j := 6 + h) dX7_turf_22 (by decide) rfl (by omega) (by decide) ?_
    refine E_eqi (y := stu t h) (bk_t hh) ?_
    refine E_iload_n dX7_turf_23 rfl ?_
    refine E_iadd dX7_turf_24 ?_
    refine E_iconst (v := 0) dX7_turf_25 (by decide) ?_
    refine E_bipush (v := 9) dX7_turf_26 (by decide) ?_
    refine E_callS (As := [.int ((stu t h) + 1), .int 0, .int 9]) (l' := [.int ((stu t h) + 1), .int 0, .int 9]) (st := []) dX7_turf_28 kX7_48 sX7_in MX7_in rfl rfl (Nat.le_of_ble_eq_true rfl) (FC.use (c_in d _ _ _) rfl (L2 := [(38, .inr (7, [.ref 39, .ref 40, .int bu, .int (nI q), .ref 41, .int (nI n), .ref 42, .int fl, .int fa, .int fw, .int fr, .int rs, .int ac, .ref 43, .ref 44, .ref 45, .ref 46, .ref 47, .ref 48, .ref 49])), (40, .inl (false, 22, (bkF t)))]) rfl) (Nat.le_of_ble_eq_true rfl) (fun _ _ hq9 => E_fgo ?_ hq9)
    show E _ _ 31 [.ref 38, .int (nI h), .int 1] [.int (b2i (inI ((stu t h) + 1) 0 9))] (hov hp [(38, .inr (7, [.ref 39, .ref 40, .int bu, .int (nI q), .ref 41, .int (nI n), .ref 42, .int fl, .int fa, .int fw, .int fr, .int rs, .int ac, .ref 43, .ref 44, .ref 45, .ref 46, .ref 47, .ref 48, .ref 49])), (40, .inl (false, 22, (bkF t)))]) _
    refine E_if_ne (tgt := 36) dX7_turf_31 (by decide) (fun c31 => ?_) (fun c31 => ?_)
    · have c31 := b2i_n0 c31
      have ct : stu t h < 9 := tin1_t (hs.2.2.1 h hh) c31
      refine E_aload_n dX7_turf_36 rfl ?_
      refine E_get dX7_turf_37 fX7_13 (by decide) rfl rfl ?_
      refine E_bipush (v := 6) dX7_turf_40 (by decide) ?_
      refine E_iload_n dX7_turf_42 rfl ?_
      refine E_iadd dX7_turf_43 ?_
      refine E_eqi (y := nI (6 + h)) (nI_add 6 _) ?_
      refine E_dup2 dX7_turf_44 rfl rfl ?_
      refine E_ialdN (j := 6 + h) dX7_turf_45 (by decide) rfl (by omega) (by decide) ?_
      refine E_eqi (y := stu t h) (bk_t hh) ?_
      refine E_iload_n dX7_turf_46 rfl ?_
      refine E_iadd dX7_turf_47 ?_
      refine E_iastN (j := 6 + h) (f2 := bkF (mkS (sce t) (she t) (upd (stu t) h (stu t h + 1)) (skn t) (sdr t) (swa t) (sbu t) (sni t))) (L2 := [(38, .inr (7, [.ref 39, .ref 40, .int bu, .int (nI q), .ref 41, .int (nI n), .ref 42, .int fl, .int fa, .int fw, .int fr, .int rs, .int ac, .ref 43, .ref 44, .ref 45, .ref 46, .ref 47, .ref 48, .ref 49])), (40, .inl (false, 22, (bkF (mkS (sce t) (she t) (upd (stu t) h (stu t h + 1)) (skn t) (sdr t) (swa t) (sbu t) (sni t)))))]) dX7_turf_48 (by decide) rfl (by omega) (by decide) (bu_t hh) rfl ?_
      refine E_iconst (v := 0) dX7_turf_49 (by decide) ?_
      have hr : rsn t 1 h 0 = 0 := by simp only [rsn]; rw [if_neg cn, if_pos ct]
      exact E_iretf dX7_turf_50 rfl rfl hr.symm (by rw [nxS_0 hr]; rfl)
    · have c31 := b2i_e0 c31
      have ct : ¬ stu t h < 9 := tin1_f (hs.2.2.1 h hh) c31
      refine E_iconst (v := 5) dX7_turf_34 (by decide) ?_
      have hr : rsn t 1 h 0 = 5 := by simp only [rsn]; rw [if_neg cn, if_neg ct]
      exact E_iretf dX7_turf_35 rfl rfl hr.symm (by rw [nxS_1 (by rw [hr]; decide)])
  · have cn : sce t h = -6 := (Cv_neg (hs.1 h hh)).mpr (Int32.not_le.mp c9)
    refine E_iconst (v := 1) dX7_turf_12 (by decide) ?_
    have hr : rsn t 1 h 0 = 1 := by simp only [rsn]; rw [if_pos cn]
    exact E_iretf dX7_turf_13 rfl rfl hr.symm (by rw [nxS_1 (by rw [hr]; decide)])

set_option maxHeartbeats 4000000 in
set_option maxRecDepth 20000 in
theorem m_turf2 (d : Nat) (bu fl fa fw fr rs ac : Int32) (q n : Nat) (t : CS) (hs : OkS t) (h : Nat) (hh : h < 6) : FC YX7_turf (d + 1) [.ref 38, .int (nI h), .int (-1)] [(38, .inr (7, [.ref 39, .ref 40, .int bu, .int (nI q), .ref 41, .int (nI n), .ref 42, .int fl, .int fa, .int fw, .int fr, .int rs, .int ac, .ref 43, .ref 44, .ref 45, .ref 46, .ref 47, .ref 48, .ref 49])), (40, .inl (false, 22, (bkF t)))] (some (.int (rsn t 2 h 0))) [(38, .inr (7, [.ref 39, .ref 40, .int bu, .int (nI q), .ref 41, .int (nI n), .ref 42, .int fl, .int fa, .int fw, .int fr, .int rs, .int ac, .ref 43, .ref 44, .ref 45, .ref 46, .ref 47, .ref 48, .ref 49])), (40, .inl (false, 22, (bkF (nxS t 2 h 0))))] := by
  intro hp
  refine E_aload_n dX7_turf_0 rfl ?_
  refine E_get dX7_turf_1 fX7_13 (by decide) rfl rfl ?_
  refine E_bipush (v := 12) dX7_turf_4 (by decide) ?_
  refine E_iload_n dX7_turf_6 rfl ?_
  refine E_iadd dX7_turf_7 ?_
  refine E_eqi (y := nI (12 + h)) (nI_add 12 _) ?_
  refine E_ialdN (j := 12 + h) dX7_turf_8 (by decide) rfl (by omega) (by decide) ?_
  refine E_eqi (y := sce t h) (bk_c hh) ?_
  refine E_if_ge (tgt := 14) dX7_turf_9 (by decide) (fun c9 => ?_) (fun c9 => ?_)
  · have cn : ¬ sce t h = -6 := fun e => absurd ((Cv_neg (hs.1 h hh)).mp e) (Int32.not_lt.mpr c9)
    refine E_aload_n dX7_turf_14 rfl ?_
    refine E_get dX7_turf_15 fX7_13 (by decide) rfl rfl ?_
    refine E_bipush (v := 6) dX7_turf_18 (by decide) ?_
    refine E_iload_n dX7_turf_20 rfl ?_
    refine E_iadd dX7_turf_21 ?_
    refine E_eqi (y := nI (6 + h)) (nI_add 6 _) ?_
    refine E_ialdN (j := 6 + h) dX7_turf_22 (by decide) rfl (by omega) (by decide) ?_
    refine E_eqi (y := stu t h) (bk_t hh) ?_
    refine E_iload_n dX7_turf_23 rfl ?_
    refine E_iadd dX7_turf_24 ?_
    refine E_iconst (v := 0) dX7_turf_25 (by decide) ?_
    refine E_bipush (v := 9) dX7_turf_26 (by decide) ?_
    refine E_callS (As := [.int ((stu t h) + (-1)), .int 0, .int 9]) (l' := [.int ((stu t h) + (-1)), .int 0, .int 9]) (st := []) dX7_turf_28 kX7_48 sX7_in MX7_in rfl rfl (Nat.le_of_ble_eq_true rfl) (FC.use (c_in d _ _ _) rfl (L2 := [(38, .inr (7, [.ref 39, .ref 40, .int bu, .int (nI q), .ref 41, .int (nI n), .ref 42, .int fl, .int fa, .int fw, .int fr, .int rs, .int ac, .ref 43, .ref 44, .ref 45, .ref 46, .ref 47, .ref 48, .ref 49])), (40, .inl (false, 22, (bkF t)))]) rfl) (Nat.le_of_ble_eq_true rfl) (fun _ _ hq9 => E_fgo ?_ hq9)
    show E _ _ 31 [.ref 38, .int (nI h), .int (-1)] [.int (b2i (inI ((stu t h) + (-1)) 0 9))] (hov hp [(38, .inr (7, [.ref 39, .ref 40, .int bu, .int (nI q), .ref 41, .int (nI n), .ref 42, .int fl, .int fa, .int fw, .int fr, .int rs, .int ac, .ref 43, .ref 44, .ref 45, .ref 46, .ref 47, .ref 48, .ref 49])), (40, .inl (false, 22, (bkF t)))]) _
    refine E_if_ne (tgt := 36) dX7_turf_31 (by decide) (fun c31 => ?_) (fun c31 => ?_)
    · have c31 := b2i_n0 c31
      have ct : 0 < stu t h := tin2_t (hs.2.2.1 h hh) c31
      refine E_aload_n dX7_turf_36 rfl ?_
      refine E_get dX7_turf_37 fX7_13 (by decide) rfl rfl ?_
      refine E_bipush (v := 6) dX7_turf_40 (by decide) ?_
      refine E_iload_n dX7_turf_42 rfl ?_
      refine E_iadd dX7_turf_43 ?_
      refine E_eqi (y := nI (6 + h)) (nI_add 6 _) ?_
      refine E_dup2 dX7_turf_44 rfl rfl ?_
      refine E_ialdN (j := 6 + h) dX7_turf_45 (by decide) rfl (by omega) (by decide) ?_
      refine E_eqi (y := stu t h) (bk_t hh) ?_
      refine E_iload_n dX7_turf_46 rfl ?_
      refine E_iadd dX7_turf_47 ?_
      refine E_eqi (y := stu t h - 1) ((Int32.sub_eq_add_neg _ _).symm) ?_
      refine E_iastN (j := 6 + h) (f2 := bkF (mkS (sce t) (she t) (upd (stu t) h (stu t h - 1)) (skn t) (sdr t) (swa t) (sbu t) (sni t))) (L2 := [(38, .inr (7, [.ref 39, .ref 40, .int bu, .int (nI q), .ref 41, .int (nI n), .ref 42, .int fl, .int fa, .int fw, .int fr, .int rs, .int ac, .ref 43, .ref 44, .ref 45, .ref 46, .ref 47, .ref 48, .ref 49])), (40, .inl (false, 22, (bkF (mkS (sce t) (she t) (upd (stu t) h (stu t h - 1)) (skn t) (sdr t) (swa t) (sbu t) (sni t)))))]) dX7_turf_48 (by decide) rfl (by omega) (by decide) (bu_t hh) rfl ?_
      refine E_iconst (v := 0) dX7_turf_49 (by decide) ?_
      have hr : rsn t 2 h 0 = 0 := by simp only [rsn]; rw [if_neg cn, if_pos ct]
      exact E_iretf dX7_turf_50 rfl rfl hr.symm (by rw [nxS_0 hr]; rfl)
    · have c31 := b2i_e0 c31
      have ct : ¬ 0 < stu t h := tin2_f (hs.2.2.1 h hh) c31
      refine E_iconst (v := 5) dX7_turf_34 (by decide) ?_
      have hr : rsn t 2 h 0 = 5 := by simp only [rsn]; rw [if_neg cn, if_neg ct]
      exact E_iretf dX7_turf_35 rfl rfl hr.symm (by rw [nxS_1 (by rw [hr]; decide)])
  · have cn : sce t h = -6 := (Cv_neg (hs.1 h hh)).mpr (Int32.not_le.mp c9)
    refine E_iconst (v := 1) dX7_turf_12 (by decide) ?_
    have hr : rsn t 2 h 0 = 1 := by simp only [rsn]; rw [if_pos cn]
    exact E_iretf dX7_turf_13 rfl rfl hr.symm (by rw [nxS_1 (by rw [hr]; decide)])

set_option maxHeartbeats 4000000 in
set_option maxRecDepth 20000 in
theorem m_kindle (d : Nat) (bu fl fa fw fr rs ac : Int32) (q n : Nat) (t : CS) (hs : OkS t) (h : Nat) (hh : h < 6) : FC YX7_kindle (d + 1) [.ref 38, .int (nI h)] [(38, .inr (7, [.ref 39, .ref 40, .int bu, .int (nI q), .ref 41, .int (nI n), .ref 42, .int fl, .int fa, .int fw, .int fr, .int rs, .int ac, .ref 43, .ref 44, .ref 45, .ref 46, .ref 47, .ref 48, .ref 49])), (40, .inl (false, 22, (bkF t)))] (some (.int (rsn t 3 h 0))) [(38, .inr (7, [.ref 39, .ref 40, .int bu, .int (nI q), .ref 41, .int (nI n), .ref 42, .int fl, .int fa, .int fw, .int fr, .int rs, .int ac, .ref 43, .ref 44, .ref 45, .ref 46, .ref 47, .ref 48, .ref 49])), (40, .inl (false, 22, (bkF (nxS t 3 h 0))))] := by
  intro hp
  refine E_aload_n dX7_kindle_0 rfl ?_
  refine E_get dX7_kindle_1 fX7_13 (by decide) rfl rfl ?_
  refine E_bipush (v := 12) dX7_kindle_4 (by decide) ?_
  refine E_iload_n dX7_kindle_6 rfl ?_
  refine E_iadd dX7_kindle_7 ?_
  refine E_eqi (y := nI (12 + h)) (nI_add 12 _) ?_
  refine E_ialdN (j := 12 + h) dX7_kindle_8 (by decide) rfl (by omega) (by decide) ?_
  refine E_eqi (y := sce t h) (bk_c hh) ?_
  refine E_if_ge (tgt := 14) dX7_kindle_9 (by decide) (fun c9 => ?_) (fun c9 => ?_)
  · have cn : ¬ sce t h = -6 := fun e => absurd ((Cv_neg (hs.1 h hh)).mp e) (Int32.not_lt.mpr c9)
    refine E_aload_n dX7_kindle_14 rfl ?_
    refine E_get dX7_kindle_15 fX7_13 (by decide) rfl rfl ?_
    refine E_iload_n dX7_kindle_18 rfl ?_
    refine E_ialdN (j := h) dX7_kindle_19 (by decide) rfl (by omega) (by decide) ?_
    refine E_eqi (y := she t h) (bk_h hh) ?_
    refine E_if_le (tgt := 25) dX7_kindle_20 (by decide) (fun c20 => ?_) (fun c20 => ?_)
    · rw [← Int32.not_lt] at c20
      refine E_aload_n dX7_kindle_25 rfl ?_
      refine E_get dX7_kindle_26 fX7_13 (by decide) rfl rfl ?_
      refine E_bipush (v := 20) dX7_kindle_29 (by decide) ?_
      refine E_ialdN (j := 20) dX7_kindle_31 (by decide) rfl (by omega) (by decide) ?_
      refine E_eqi (y := sdr t) rfl ?_
      refine E_iload_n dX7_kindle_32 rfl ?_
      refine E_callS (As := [.int (sdr t), .int (nI h)]) (l' := [.int (sdr t), .int (nI h)]) (st := []) dX7_kindle_33 kX7_80 sX7_has MX7_has rfl rfl (Nat.le_of_ble_eq_true rfl) (FC.use (c_has d _ _) rfl (L2 := [(38, .inr (7, [.ref 39, .ref 40, .int bu, .int (nI q), .ref 41, .int (nI n), .ref 42, .int fl, .int fa, .int fw, .int fr, .int rs, .int ac, .ref 43, .ref 44, .ref 45, .ref 46, .ref 47, .ref 48, .ref 49])), (40, .inl (false, 22, (bkF t)))]) rfl) (Nat.le_of_ble_eq_true rfl) (fun _ _ hq9 => E_fgo ?_ hq9)
      show E _ _ 36 [.ref 38, .int (nI h)] [.int (b2i (hbt (sdr t) (nI h)))] (hov hp [(38, .inr (7, [.ref 39, .ref 40, .int bu, .int (nI q), .ref 41, .int (nI n), .ref 42, .int fl, .int fa, .int fw, .int fr, .int rs, .int ac, .ref 43, .ref 44, .ref 45, .ref 46, .ref 47, .ref 48, .ref 49])), (40, .inl (false, 22, (bkF t)))]) _
      refine E_if_eq (tgt := 41) dX7_kindle_36 (by decide) (fun c36 => ?_) (fun c36 => ?_)
      · have c36 := b2i_e0 c36
        refine E_aload_n dX7_kindle_41 rfl ?_
        refine E_get dX7_kindle_42 fX7_13 (by decide) rfl rfl ?_
        refine E_iload_n dX7_kindle_45 rfl ?_
        refine E_iconst (v := 3) dX7_kindle_46 (by decide) ?_
        refine E_iastN (j := h) (f2 := bkF (mkS (sce t) (upd (she t) h 3) (stu t) (skn t) (sdr t) (swa t) (sbu t) (sni t))) (L2 := [(38, .inr (7, [.ref 39, .ref 40, .int bu, .int (nI q), .ref 41, .int (nI n), .ref 42, .int fl, .int fa, .int fw, .int fr, .int rs, .int ac, .ref 43, .ref 44, .ref 45, .ref 46, .ref 47, .ref 48, .ref 49])), (40, .inl (false, 22, (bkF (mkS (sce t) (upd (she t) h 3) (stu t) (skn t) (sdr t) (swa t) (sbu t) (sni t)))))]) dX7_kindle_47 (by decide) rfl (by omega) (by decide) (bu_h hh) rfl ?_
        refine E_iconst (v := 0) dX7_kindle_48 (by decide) ?_
        have hr : rsn t 3 h 0 = 0 := by simp only [rsn]; rw [if_neg cn, if_neg c20, if_neg (by rw [c36]; decide)]
        exact E_iretf dX7_kindle_49 rfl rfl hr.symm (by rw [nxS_0 hr]; rfl)
      · have c36 := b2i_n0 c36
        refine E_iconst (v := 4) dX7_kindle_39 (by decide) ?_
        have hr : rsn t 3 h 0 = 4 := by simp only [rsn]; rw [if_neg cn, if_neg c20, if_pos c36]
        exact E_iretf dX7_kindle_40 rfl rfl hr.symm (by rw [nxS_1 (by rw [hr]; decide)])
    · rw [Int32.not_le] at c20
      refine E_iconst (v := 3) dX7_kindle_23 (by decide) ?_
      have hr : rsn t 3 h 0 = 3 := by simp only [rsn]; rw [if_neg cn, if_pos c20]
      exact E_iretf dX7_kindle_24 rfl rfl hr.symm (by rw [nxS_1 (by rw [hr]; decide)])
  · have cn : sce t h = -6 := (Cv_neg (hs.1 h hh)).mpr (Int32.not_le.mp c9)
    refine E_iconst (v := 1) dX7_kindle_12 (by decide) ?_
    have hr : rsn t 3 h 0 = 1 := by simp only [rsn]; rw [if_pos cn]
    exact E_iretf dX7_kindle_13 rfl rfl hr.symm (by rw [nxS_1 (by rw [hr]; decide)])

set_option maxHeartbeats 4000000 in
set_option maxRecDepth 20000 in
theorem m_watch (d : Nat) (bu fl fa fw fr rs ac : Int32) (q n : Nat) (t : CS) (hs : OkS t) (h : Nat) (hh : h < 6) (hb : bu = sbu t) : FC YX7_watch (d + 1) [.ref 38, .int (nI h)] [(38, .inr (7, [.ref 39, .ref 40, .int bu, .int (nI q), .ref 41, .int (nI n), .ref 42, .int fl, .int fa, .int fw, .int fr, .int rs, .int ac, .ref 43, .ref 44, .ref 45, .ref 46, .ref 47, .ref 48, .ref 49])), (40, .inl (false, 22, (bkF t)))] (some (.int (rsn t 4 h 0))) [(38, .inr (7, [.ref 39, .ref 40, .int bu, .int (nI q), .ref 41, .int (nI n), .ref 42, .int fl, .int fa, .int fw, .int fr, .int rs, .int ac, .ref 43, .ref 44, .ref 45, .ref 46, .ref 47, .ref 48, .ref 49])), (40, .inl (false, 22, (bkF (nxS t 4 h 0))))] := by
  intro hp
  refine E_aload_n dX7_watch_0 rfl ?_
  refine E_get dX7_watch_1 fX7_13 (by decide) rfl rfl ?_
  refine E_bipush (v := 12) dX7_watch_4 (by decide) ?_
  refine E_iload_n dX7_watch_6 rfl ?_
  refine E_iadd dX7_watch_7 ?_
  refine E_eqi (y := nI (12 + h)) (nI_add 12 _) ?_
  refine E_ialdN (j := 12 + h) dX7_watch_8 (by decide) rfl (by omega) (by decide) ?_
  refine E_eqi (y := sce t h) (bk_c hh) ?_
  refine E_if_ge (tgt := 14) dX7_watch_9 (by decide) (fun c9 => ?_) (fun c9 => ?_)
  · have cn : ¬ sce t h = -6 := fun e => absurd ((Cv_neg (hs.1 h hh)).mp e) (Int32.not_lt.mpr c9)
    refine E_aload_n dX7_watch_14 rfl ?_
    refine E_get dX7_watch_15 fX7_13 (by decide) rfl rfl ?_
    refine E_bipush (v := 18) dX7_watch_18 (by decide) ?_
    refine E_ialdN (j := 18) dX7_watch_20 (by decide) rfl (by omega) (by decide) ?_
    refine E_eqi (y := swa t) rfl ?_
    refine E_iload_n dX7_watch_21 rfl ?_
    refine E_callS (As := [.int (swa t), .int (nI h)]) (l' := [.int (swa t), .int (nI h)]) (st := []) dX7_watch_22 kX7_80 sX7_has MX7_has rfl rfl (Nat.le_of_ble_eq_true rfl) (FC.use (c_has d _ _) rfl (L2 := [(38, .inr (7, [.ref 39, .ref 40, .int bu, .int (nI q), .ref 41, .int (nI n), .ref 42, .int fl, .int fa, .int fw, .int fr, .int rs, .int ac, .ref 43, .ref 44, .ref 45, .ref 46, .ref 47, .ref 48, .ref 49])), (40, .inl (false, 22, (bkF t)))]) rfl) (Nat.le_of_ble_eq_true rfl) (fun _ _ hq9 => E_fgo ?_ hq9)
    show E _ _ 25 [.ref 38, .int (nI h)] [.int (b2i (hbt (swa t) (nI h)))] (hov hp [(38, .inr (7, [.ref 39, .ref 40, .int bu, .int (nI q), .ref 41, .int (nI n), .ref 42, .int fl, .int fa, .int fw, .int fr, .int rs, .int ac, .ref 43, .ref 44, .ref 45, .ref 46, .ref 47, .ref 48, .ref 49])), (40, .inl (false, 22, (bkF t)))]) _
    refine E_if_ne (tgt := 48) dX7_watch_25 (by decide) (fun c25 => ?_) (fun c25 => ?_)
    · have c25 := b2i_n0 c25
      refine E_aload_n dX7_watch_48 rfl ?_
      refine E_get dX7_watch_49 fX7_13 (by decide) rfl rfl ?_
      refine E_bipush (v := 18) dX7_watch_52 (by decide) ?_
      refine E_dup2 dX7_watch_54 rfl rfl ?_
      refine E_ialdN (j := 18) dX7_watch_55 (by decide) rfl (by omega) (by decide) ?_
      refine E_eqi (y := swa t) rfl ?_
      refine E_iconst (v := 1) dX7_watch_56 (by decide) ?_
      refine E_iload_n dX7_watch_57 rfl ?_
      refine E_ishl dX7_watch_58 ?_
      refine E_ixor dX7_watch_59 ?_
      refine E_iastN (j := 18) (f2 := bkF (mkS (sce t) (she t) (stu t) (skn t) (sdr t) (xoB (swa t) h) (sbu t) (sni t))) (L2 := [(38, .inr (7, [.ref 39, .ref 40, .int bu, .int (nI q), .ref 41, .int (nI n), .ref 42, .int fl, .int fa, .int fw, .int fr, .int rs, .int ac, .ref 43, .ref 44, .ref 45, .ref 46, .ref 47, .ref 48, .ref 49])), (40, .inl (false, 22, (bkF (mkS (sce t) (she t) (stu t) (skn t) (sdr t) (xoB (swa t) h) (sbu t) (sni t)))))]) dX7_watch_60 (by decide) rfl (by omega) (by decide) bu_18 rfl ?_
      refine E_iconst (v := 0) dX7_watch_61 (by decide) ?_
      have hr : rsn t 4 h 0 = 0 := by simp only [rsn]; rw [if_neg cn, if_pos c25]
      exact E_iretf dX7_watch_62 rfl rfl hr.symm (by rw [nxS_0 hr]; rfl)
    · have c25 := b2i_e0 c25
      refine E_aload_n dX7_watch_28 rfl ?_
      refine E_get dX7_watch_29 fX7_13 (by decide) rfl rfl ?_
      refine E_bipush (v := 18) dX7_watch_32 (by decide) ?_
      refine E_ialdN (j := 18) dX7_watch_34 (by decide) rfl (by omega) (by decide) ?_
      refine E_eqi (y := swa t) rfl ?_
      refine E_callS (As := [.int (swa t)]) (l' := [.int (swa t), .null, .null]) (st := []) dX7_watch_35 kX7_56 sX7_bits MX7_bits rfl rfl (Nat.le_of_ble_eq_true rfl) (FC.use (c_bits d _) rfl (L2 := [(38, .inr (7, [.ref 39, .ref 40, .int bu, .int (nI q), .ref 41, .int (nI n), .ref 42, .int fl, .int fa, .int fw, .int fr, .int rs, .int ac, .ref 43, .ref 44, .ref 45, .ref 46, .ref 47, .ref 48, .ref 49])), (40, .inl (false, 22, (bkF t)))]) rfl) (Nat.le_of_ble_eq_true rfl) (fun _ _ hq9 => E_fgo ?_ hq9)
      show E _ _ 38 [.ref 38, .int (nI h)] [.int (bitN (swa t) 8)] (hov hp [(38, .inr (7, [.ref 39, .ref 40, .int bu, .int (nI q), .ref 41, .int (nI n), .ref 42, .int fl, .int fa, .int fw, .int fr, .int rs, .int ac, .ref 43, .ref 44, .ref 45, .ref 46, .ref 47, .ref 48, .ref 49])), (40, .inl (false, 22, (bkF t)))]) _
      refine E_eqi (y := bcI (swa t)) (bits_of hs.2.2.2.2.2.1) ?_
      refine E_aload_n dX7_watch_38 rfl ?_
      refine E_get dX7_watch_39 fX7_16 (by decide) rfl rfl ?_
      refine E_eqi (y := sbu t) hb ?_
      refine E_icmp_lt (tgt := 48) dX7_watch_42 (by decide) (fun c42 => ?_) (fun c42 => ?_)
      · refine E_aload_n dX7_watch_48 rfl ?_
        refine E_get dX7_watch_49 fX7_13 (by decide) rfl rfl ?_
        refine E_bipush (v := 18) dX7_watch_52 (by decide) ?_
        refine E_dup2 dX7_watch_54 rfl rfl ?_
        refine E_ialdN (j := 18) dX7_watch_55 (by decide) rfl (by omega) (by decide) ?_
        refine E_eqi (y := swa t) rfl ?_
        refine E_iconst (v := 1) dX7_watch_56 (by decide) ?_
        refine E_iload_n dX7_watch_57 rfl ?_
        refine E_ishl dX7_watch_58 ?_
        refine E_ixor dX7_watch_59 ?_
        refine E_iastN (j := 18) (f2 := bkF (mkS (sce t) (she t) (stu t) (skn t) (sdr t) (xoB (swa t) h) (sbu t) (sni t))) (L2 := [(38, .inr (7, [.ref 39, .ref 40, .int bu, .int (nI q), .ref 41, .int (nI n), .ref 42, .int fl, .int fa, .int fw, .int fr, .int rs, .int ac, .ref 43, .ref 44, .ref 45, .ref 46, .ref 47, .ref 48, .ref 49])), (40, .inl (false, 22, (bkF (mkS (sce t) (she t) (stu t) (skn t) (sdr t) (xoB (swa t) h) (sbu t) (sni t)))))]) dX7_watch_60 (by decide) rfl (by omega) (by decide) bu_18 rfl ?_
        refine E_iconst (v := 0) dX7_watch_61 (by decide) ?_
        have hr : rsn t 4 h 0 = 0 := by simp only [rsn]; rw [if_neg cn, if_neg (by rw [c25]; decide), if_pos c42]
        exact E_iretf dX7_watch_62 rfl rfl hr.symm (by rw [nxS_0 hr]; rfl)
      · refine E_bipush (v := 6) dX7_watch_45 (by decide) ?_
        have hr : rsn t 4 h 0 = 6 := by simp only [rsn]; rw [if_neg cn, if_neg (by rw [c25]; decide), if_neg c42]
        exact E_iretf dX7_watch_47 rfl rfl hr.symm (by rw [nxS_1 (by rw [hr]; decide)])
  · have cn : sce t h = -6 := (Cv_neg (hs.1 h hh)).mpr (Int32.not_le.mp c9)
    refine E_iconst (v := 1) dX7_watch_12 (by decide) ?_
    have hr : rsn t 4 h 0 = 1 := by simp only [rsn]; rw [if_pos cn]
    exact E_iretf dX7_watch_13 rfl rfl hr.symm (by rw [nxS_1 (by rw [hr]; decide)])
