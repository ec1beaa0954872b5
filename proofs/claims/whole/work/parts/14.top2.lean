set_option maxHeartbeats 4000000 in
set_option maxRecDepth 20000 in
theorem c_si_add (d : Nat) (sn sc : Nat → Int32) (q : Nat) (hq : q < 8) (x y : Int32) : FC YX4_append d [.ref 7, .int x, .int y] [(7, .inr (4, [.ref 8, .ref 9, .int (nI q)])), (8, .inl (false, 8, sn)), (9, .inl (false, 8, sc))] (some (.int (b2i true))) [(7, .inr (4, [.ref 8, .ref 9, .int (nI (q + 1))])), (8, .inl (false, 8, (upd sn q x))), (9, .inl (false, 8, (upd sc q y)))] := by
  intro hp
  refine E_aload_n dX4_append_0 rfl ?_
  refine E_get dX4_append_1 fX4_18 (by decide) rfl rfl ?_
  refine E_if_lt (tgt := 16) dX4_append_4 (by decide) (fun c => absurd c (nI_pos (by omega))) (fun _ => ?_)
  refine E_aload_n dX4_append_7 rfl ?_
  refine E_get dX4_append_8 fX4_18 (by decide) rfl rfl ?_
  refine E_bipush (v := 8) dX4_append_11 (by decide) ?_
  refine E_icmp_lt (tgt := 18) dX4_append_13 (by decide) (fun _ => ?_) (fun c => absurd (cI_lt (n := 8) rfl hq (by decide)) c)
  refine E_aload_n dX4_append_18 rfl ?_
  refine E_get dX4_append_19 fX4_9 (by decide) rfl rfl ?_
  refine E_aload_n dX4_append_22 rfl ?_
  refine E_get dX4_append_23 fX4_18 (by decide) rfl rfl ?_
  refine E_iload_n dX4_append_26 rfl ?_
  refine E_iastN (j := q) (f2 := upd sn q x) (L2 := [(7, .inr (4, [.ref 8, .ref 9, .int (nI q)])), (8, .inl (false, 8, (upd sn q x))), (9, .inl (false, 8, sc))]) dX4_append_27 (by decide) rfl (by omega) (by decide) rfl rfl ?_
  refine E_aload_n dX4_append_28 rfl ?_
  refine E_get dX4_append_29 fX4_15 (by decide) rfl rfl ?_
  refine E_aload_n dX4_append_32 rfl ?_
  refine E_get dX4_append_33 fX4_18 (by decide) rfl rfl ?_
  refine E_iload_n dX4_append_36 rfl ?_
  refine E_iastN (j := q) (f2 := upd sc q y) (L2 := [(7, .inr (4, [.ref 8, .ref 9, .int (nI q)])), (8, .inl (false, 8, (upd sn q x))), (9, .inl (false, 8, (upd sc q y)))]) dX4_append_37 (by decide) rfl (by omega) (by decide) rfl rfl ?_
  refine E_aload_n dX4_append_38 rfl ?_
  refine E_dup dX4_append_39 rfl ?_
  refine E_get dX4_append_40 fX4_18 (by decide) rfl rfl ?_
  refine E_iconst (v := 1) dX4_append_43 (by decide) ?_
  refine E_iadd dX4_append_44 ?_
  refine E_eqi (y := nI (q + 1)) (nI_1 _) ?_
  refine E_puti (fs2 := [.ref 8, .ref 9, .int (nI (q + 1))]) (L2 := [(7, .inr (4, [.ref 8, .ref 9, .int (nI (q + 1))])), (8, .inl (false, 8, (upd sn q x))), (9, .inl (false, 8, (upd sc q y)))]) dX4_append_45 fX4_18 fpX4_2 (by decide) rfl (Nat.le_of_ble_eq_true rfl) rfl rfl ?_
  refine E_iconst (v := 1) dX4_append_48 (by decide) ?_
  exact E_iretf dX4_append_49 rfl (b2i_nar _) rfl rfl

set_option maxHeartbeats 4000000 in
set_option maxRecDepth 20000 in
theorem c_si_full (d : Nat) (sn sc : Nat → Int32) (x y : Int32) : FC YX4_append d [.ref 7, .int x, .int y] [(7, .inr (4, [.ref 8, .ref 9, .int (nI 8)])), (8, .inl (false, 8, sn)), (9, .inl (false, 8, sc))] (some (.int (b2i false))) [(7, .inr (4, [.ref 8, .ref 9, .int (nI 8)])), (8, .inl (false, 8, sn)), (9, .inl (false, 8, sc))] := by
  intro hp
  refine E_aload_n dX4_append_0 rfl ?_
  refine E_get dX4_append_1 fX4_18 (by decide) rfl rfl ?_
  refine E_if_lt (tgt := 16) dX4_append_4 (by decide) (fun c => absurd c (by decide)) (fun _ => ?_)
  refine E_aload_n dX4_append_7 rfl ?_
  refine E_get dX4_append_8 fX4_18 (by decide) rfl rfl ?_
  refine E_bipush (v := 8) dX4_append_11 (by decide) ?_
  refine E_icmp_lt (tgt := 18) dX4_append_13 (by decide) (fun c => absurd c (by decide)) (fun _ => ?_)
  refine E_iconst (v := 0) dX4_append_16 (by decide) ?_
  exact E_iretf dX4_append_17 rfl (b2i_nar _) rfl rfl

set_option maxHeartbeats 4000000 in
set_option maxRecDepth 20000 in
theorem c_sic_15_7 (d : Nat) (a b sn sc : Nat → Int32) (p q : Nat) (ha : ∀ j, 8 ≤ j → a j = sn j) (hb : ∀ j, 8 ≤ j → b j = sc j) : FC YX4_copyFrom d [.ref 15, .ref 7, .null] [(7, .inr (4, [.ref 8, .ref 9, .int (nI q)])), (8, .inl (false, 8, sn)), (9, .inl (false, 8, sc)), (15, .inr (4, [.ref 16, .ref 17, .int (nI p)])), (16, .inl (false, 8, a)), (17, .inl (false, 8, b))] (none) [(7, .inr (4, [.ref 8, .ref 9, .int (nI q)])), (8, .inl (false, 8, sn)), (9, .inl (false, 8, sc)), (15, .inr (4, [.ref 16, .ref 17, .int (nI q)])), (16, .inl (false, 8, sn)), (17, .inl (false, 8, sc))] := by
  intro hp
  refine E_iconst (v := 0) dX4_copyFrom_0 (by decide) ?_
  refine E_istore_n (l2 := [.ref 15, .ref 7, .int 0]) dX4_copyFrom_1 rfl (by decide) rfl ?_
  have L2 : ∀ i, i ≤ 8 → E YX4_copyFrom d 2 [.ref 15, .ref 7, .int (nI i)] [] (hov hp [(7, .inr (4, [.ref 8, .ref 9, .int (nI q)])), (8, .inl (false, 8, sn)), (9, .inl (false, 8, sc)), (15, .inr (4, [.ref 16, .ref 17, .int (nI p)])), (16, .inl (false, 8, (cpy a sn i))), (17, .inl (false, 8, (cpy b sc i)))]) (fun v h' => v = none ∧ h' = hov hp [(7, .inr (4, [.ref 8, .ref 9, .int (nI q)])), (8, .inl (false, 8, sn)), (9, .inl (false, 8, sc)), (15, .inr (4, [.ref 16, .ref 17, .int (nI q)])), (16, .inl (false, 8, sn)), (17, .inl (false, 8, sc))]) := by
    refine down 8 ?_ ?_
    · refine E_iload_n dX4_copyFrom_2 rfl ?_
      refine E_bipush (v := 8) dX4_copyFrom_3 (by decide) ?_
      refine E_icmp_ge (tgt := 38) dX4_copyFrom_5 (by decide) (fun _ => ?_) (fun c => absurd (by decide) c)
      refine E_aload_n dX4_copyFrom_38 rfl ?_
      refine E_aload_n dX4_copyFrom_39 rfl ?_
      refine E_get dX4_copyFrom_40 fX4_18 (by decide) rfl rfl ?_
      refine E_puti (fs2 := [.ref 16, .ref 17, .int (nI q)]) (L2 := [(7, .inr (4, [.ref 8, .ref 9, .int (nI q)])), (8, .inl (false, 8, sn)), (9, .inl (false, 8, sc)), (15, .inr (4, [.ref 16, .ref 17, .int (nI q)])), (16, .inl (false, 8, (cpy a sn 8))), (17, .inl (false, 8, (cpy b sc 8)))]) dX4_copyFrom_43 fX4_18 fpX4_2 (by decide) rfl (Nat.le_of_ble_eq_true rfl) rfl rfl ?_
      exact E_vretf dX4_copyFrom_46 rfl (by rw [cpy_all ha, cpy_all hb])
    · intro i hi ih
      refine E_iload_n dX4_copyFrom_2 rfl ?_
      refine E_bipush (v := 8) dX4_copyFrom_3 (by decide) ?_
      refine E_icmp_ge (tgt := 38) dX4_copyFrom_5 (by decide) (fun c => absurd c (cI_nle (n := 8) rfl hi (by decide))) (fun _ => ?_)
      refine E_aload_n dX4_copyFrom_8 rfl ?_
      refine E_get dX4_copyFrom_9 fX4_9 (by decide) rfl rfl ?_
      refine E_iload_n dX4_copyFrom_12 rfl ?_
      refine E_aload_n dX4_copyFrom_13 rfl ?_
      refine E_get dX4_copyFrom_14 fX4_9 (by decide) rfl rfl ?_
      refine E_iload_n dX4_copyFrom_17 rfl ?_
      refine E_ialdN (j := i) dX4_copyFrom_18 (by decide) rfl (by omega) (by decide) ?_
      refine E_iastN (j := i) (f2 := cpy a sn (i + 1)) (L2 := [(7, .inr (4, [.ref 8, .ref 9, .int (nI q)])), (8, .inl (false, 8, sn)), (9, .inl (false, 8, sc)), (15, .inr (4, [.ref 16, .ref 17, .int (nI p)])), (16, .inl (false, 8, (cpy a sn (i + 1)))), (17, .inl (false, 8, (cpy b sc i)))]) dX4_copyFrom_19 (by decide) rfl (by omega) (by decide) (cpy_s _ _ _) rfl ?_
      refine E_aload_n dX4_copyFrom_20 rfl ?_
      refine E_get dX4_copyFrom_21 fX4_15 (by decide) rfl rfl ?_
      refine E_iload_n dX4_copyFrom_24 rfl ?_
      refine E_aload_n dX4_copyFrom_25 rfl ?_
      refine E_get dX4_copyFrom_26 fX4_15 (by decide) rfl rfl ?_
      refine E_iload_n dX4_copyFrom_29 rfl ?_
      refine E_ialdN (j := i) dX4_copyFrom_30 (by decide) rfl (by omega) (by decide) ?_
      refine E_iastN (j := i) (f2 := cpy b sc (i + 1)) (L2 := [(7, .inr (4, [.ref 8, .ref 9, .int (nI q)])), (8, .inl (false, 8, sn)), (9, .inl (false, 8, sc)), (15, .inr (4, [.ref 16, .ref 17, .int (nI p)])), (16, .inl (false, 8, (cpy a sn (i + 1)))), (17, .inl (false, 8, (cpy b sc (i + 1))))]) dX4_copyFrom_31 (by decide) rfl (by omega) (by decide) (cpy_s _ _ _) rfl ?_
      refine E_iinc (y := nI (i + 1)) (l2 := [.ref 15, .ref 7, .int (nI (i + 1))]) dX4_copyFrom_32 rfl (nI_1 _) (by decide) rfl ?_
      refine E_goto (tgt := 2) dX4_copyFrom_35 (by decide) ?_
      exact ih
  have e0 := L2 0 (by decide)
  rw [cpy_0, cpy_0] at e0
  exact e0

set_option maxHeartbeats 4000000 in
set_option maxRecDepth 20000 in
theorem c_sic_23_7 (d : Nat) (a b sn sc : Nat → Int32) (p q : Nat) (ha : ∀ j, 8 ≤ j → a j = sn j) (hb : ∀ j, 8 ≤ j → b j = sc j) : FC YX4_copyFrom d [.ref 23, .ref 7, .null] [(7, .inr (4, [.ref 8, .ref 9, .int (nI q)])), (8, .inl (false, 8, sn)), (9, .inl (false, 8, sc)), (23, .inr (4, [.ref 24, .ref 25, .int (nI p)])), (24, .inl (false, 8, a)), (25, .inl (false, 8, b))] (none) [(7, .inr (4, [.ref 8, .ref 9, .int (nI q)])), (8, .inl (false, 8, sn)), (9, .inl (false, 8, sc)), (23, .inr (4, [.ref 24, .ref 25, .int (nI q)])), (24, .inl (false, 8, sn)), (25, .inl (false, 8, sc))] := by
  intro hp
  refine E_iconst (v := 0) dX4_copyFrom_0 (by decide) ?_
  refine E_istore_n (l2 := [.ref 23, .ref 7, .int 0]) dX4_copyFrom_1 rfl (by decide) rfl ?_
  have L2 : ∀ i, i ≤ 8 → E YX4_copyFrom d 2 [.ref 23, .ref 7, .int (nI i)] [] (hov hp [(7, .inr (4, [.ref 8, .ref 9, .int (nI q)])), (8, .inl (false, 8, sn)), (9, .inl (false, 8, sc)), (23, .inr (4, [.ref 24, .ref 25, .int (nI p)])), (24, .inl (false, 8, (cpy a sn i))), (25, .inl (false, 8, (cpy b sc i)))]) (fun v h' => v = none ∧ h' = hov hp [(7, .inr (4, [.ref 8, .ref 9, .int (nI q)])), (8, .inl (false, 8, sn)), (9, .inl (false, 8, sc)), (23, .inr (4, [.ref 24, .ref 25, .int (nI q)])), (24, .inl (false, 8, sn)), (25, .inl (false, 8, sc))]) := by
    refine down 8 ?_ ?_
    · refine E_iload_n dX4_copyFrom_2 rfl ?_
      refine E_bipush (v := 8) dX4_copyFrom_3 (by decide) ?_
      refine E_icmp_ge (tgt := 38) dX4_copyFrom_5 (by decide) (fun _ => ?_) (fun c => absurd (by decide) c)
      refine E_aload_n dX4_copyFrom_38 rfl ?_
      refine E_aload_n dX4_copyFrom_39 rfl ?_
      refine E_get dX4_copyFrom_40 fX4_18 (by decide) rfl rfl ?_
      refine E_puti (fs2 := [.ref 24, .ref 25, .int (nI q)]) (L2 := [(7, .inr (4, [.ref 8, .ref 9, .int (nI q)])), (8, .inl (false, 8, sn)), (9, .inl (false, 8, sc)), (23, .inr (4, [.ref 24, .ref 25, .int (nI q)])), (24, .inl (false, 8, (cpy a sn 8))), (25, .inl (false, 8, (cpy b sc 8)))]) dX4_copyFrom_43 fX4_18 fpX4_2 (by decide) rfl (Nat.le_of_ble_eq_true rfl) rfl rfl ?_
      exact E_vretf dX4_copyFrom_46 rfl (by rw [cpy_all ha, cpy_all hb])
    · intro i hi ih
      refine E_iload_n dX4_copyFrom_2 rfl ?_
      refine E_bipush (v := 8) dX4_copyFrom_3 (by decide) ?_
      refine E_icmp_ge (tgt := 38) dX4_copyFrom_5 (by decide) (fun c => absurd c (cI_nle (n := 8) rfl hi (by decide))) (fun _ => ?_)
      refine E_aload_n dX4_copyFrom_8 rfl ?_
      refine E_get dX4_copyFrom_9 fX4_9 (by decide) rfl rfl ?_
      refine E_iload_n dX4_copyFrom_12 rfl ?_
      refine E_aload_n dX4_copyFrom_13 rfl ?_
      refine E_get dX4_copyFrom_14 fX4_9 (by decide) rfl rfl ?_
      refine E_iload_n dX4_copyFrom_17 rfl ?_
      refine E_ialdN (j := i) dX4_copyFrom_18 (by decide) rfl (by omega) (by decide) ?_
      refine E_iastN (j := i) (f2 := cpy a sn (i + 1)) (L2 := [(7, .inr (4, [.ref 8, .ref 9, .int (nI q)])), (8, .inl (false, 8, sn)), (9, .inl (false, 8, sc)), (23, .inr (4, [.ref 24, .ref 25, .int (nI p)])), (24, .inl (false, 8, (cpy a sn (i + 1)))), (25, .inl (false, 8, (cpy b sc i)))]) dX4_copyFrom_19 (by decide) rfl (by omega) (by decide) (cpy_s _ _ _) rfl ?_
      refine E_aload_n dX4_copyFrom_20 rfl ?_
      refine E_get dX4_copyFrom_21 fX4_15 (by decide) rfl rfl ?_
      refine E_iload_n dX4_copyFrom_24 rfl ?_
      refine E_aload_n dX4_copyFrom_25 rfl ?_
      refine E_get dX4_copyFrom_26 fX4_15 (by decide) rfl rfl ?_
      refine E_iload_n dX4_copyFrom_29 rfl ?_
      refine E_ialdN (j := i) dX4_copyFrom_30 (by decide) rfl (by omega) (by decide) ?_
      refine E_iastN (j := i) (f2 := cpy b sc (i + 1)) (L2 := [(7, .inr (4, [.ref 8, .ref 9, .int (nI q)])), (8, .inl (false, 8, sn)), (9, .inl (false, 8, sc)), (23, .inr (4, [.ref 24, .ref 25, .int (nI p)])), (24, .inl (false, 8, (cpy a sn (i + 1)))), (25, .inl (false, 8, (cpy b sc (i + 1))))]) dX4_copyFrom_31 (by decide) rfl (by omega) (by decide) (cpy_s _ _ _) rfl ?_
      refine E_iinc (y := nI (i + 1)) (l2 := [.ref 23, .ref 7, .int (nI (i + 1))]) dX4_copyFrom_32 rfl (nI_1 _) (by decide) rfl ?_
      refine E_goto (tgt := 2) dX4_copyFrom_35 (by decide) ?_
      exact ih
  have e0 := L2 0 (by decide)
  rw [cpy_0, cpy_0] at e0
  exact e0

set_option maxHeartbeats 4000000 in
set_option maxRecDepth 20000 in
theorem c_sic_7_15 (d : Nat) (a b sn sc : Nat → Int32) (p q : Nat) (ha : ∀ j, 8 ≤ j → a j = sn j) (hb : ∀ j, 8 ≤ j → b j = sc j) : FC YX4_copyFrom d [.ref 7, .ref 15, .null] [(7, .inr (4, [.ref 8, .ref 9, .int (nI p)])), (8, .inl (false, 8, a)), (9, .inl (false, 8, b)), (15, .inr (4, [.ref 16, .ref 17, .int (nI q)])), (16, .inl (false, 8, sn)), (17, .inl (false, 8, sc))] (none) [(7, .inr (4, [.ref 8, .ref 9, .int (nI q)])), (8, .inl (false, 8, sn)), (9, .inl (false, 8, sc)), (15, .inr (4, [.ref 16, .ref 17, .int (nI q)])), (16, .inl (false, 8, sn)), (17, .inl (false, 8, sc))] := by
  intro hp
  refine E_iconst (v := 0) dX4_copyFrom_0 (by decide) ?_
  refine E_istore_n (l2 := [.ref 7, .ref 15, .int 0]) dX4_copyFrom_1 rfl (by decide) rfl ?_
  have L2 : ∀ i, i ≤ 8 → E YX4_copyFrom d 2 [.ref 7, .ref 15, .int (nI i)] [] (hov hp [(7, .inr (4, [.ref 8, .ref 9, .int (nI p)])), (8, .inl (false, 8, (cpy a sn i))), (9, .inl (false, 8, (cpy b sc i))), (15, .inr (4, [.ref 16, .ref 17, .int (nI q)])), (16, .inl (false, 8, sn)), (17, .inl (false, 8, sc))]) (fun v h' => v = none ∧ h' = hov hp [(7, .inr (4, [.ref 8, .ref 9, .int (nI q)])), (8, .inl (false, 8, sn)), (9, .inl (false, 8, sc)), (15, .inr (4, [.ref 16, .ref 17, .int (nI q)])), (16, .inl (false, 8, sn)), (17, .inl (false, 8, sc))]) := by
    refine down 8 ?_ ?_
    · refine E_iload_n dX4_copyFrom_2 rfl ?_
      refine E_bipush (v := 8) dX4_copyFrom_3 (by decide) ?_
      refine E_icmp_ge (tgt := 38) dX4_copyFrom_5 (by decide) (fun _ => ?_) (fun c => absurd (by decide) c)
      refine E_aload_n dX4_copyFrom_38 rfl ?_
      refine E_aload_n dX4_copyFrom_39 rfl ?_
      refine E_get dX4_copyFrom_40 fX4_18 (by decide) rfl rfl ?_
      refine E_puti (fs2 := [.ref 8, .ref 9, .int (nI q)]) (L2 := [(7, .inr (4, [.ref 8, .ref 9, .int (nI q)])), (8, .inl (false, 8, (cpy a sn 8))), (9, .inl (false, 8, (cpy b sc 8))), (15, .inr (4, [.ref 16, .ref 17, .int (nI q)])), (16, .inl (false, 8, sn)), (17, .inl (false, 8, sc))]) dX4_copyFrom_43 fX4_18 fpX4_2 (by decide) rfl (Nat.le_of_ble_eq_true rfl) rfl rfl ?_
      exact E_vretf dX4_copyFrom_46 rfl (by rw [cpy_all ha, cpy_all hb])
    · intro i hi ih
      refine E_iload_n dX4_copyFrom_2 rfl ?_
      refine E_bipush (v := 8) dX4_copyFrom_3 (by decide) ?_
      refine E_icmp_ge (tgt := 38) dX4_copyFrom_5 (by decide) (fun c => absurd c (cI_nle (n := 8) rfl hi (by decide))) (fun _ => ?_)
      refine E_aload_n dX4_copyFrom_8 rfl ?_
      refine E_get dX4_copyFrom_9 fX4_9 (by decide) rfl rfl ?_
      refine E_iload_n dX4_copyFrom_12 rfl ?_
      refine E_aload_n dX4_copyFrom_13 rfl ?_
      refine E_get dX4_copyFrom_14 fX4_9 (by decide) rfl rfl ?_
      refine E_iload_n dX4_copyFrom_17 rfl ?_
      refine E_ialdN (j := i) dX4_copyFrom_18 (by decide) rfl (by omega) (by decide) ?_
      refine E_iastN (j := i) (f2 := cpy a sn (i + 1)) (L2 := [(7, .inr (4, [.ref 8, .ref 9, .int (nI p)])), (8, .inl (false, 8, (cpy a sn (i + 1)))), (9, .inl (false, 8, (cpy b sc i))), (15, .inr (4, [.ref 16, .ref 17, .int (nI q)])), (16, .inl (false, 8, sn)), (17, .inl (false, 8, sc))]) dX4_copyFrom_19 (by decide) rfl (by omega) (by decide) (cpy_s _ _ _) rfl ?_
      refine E_aload_n dX4_copyFrom_20 rfl ?_
      refine E_get dX4_copyFrom_21 fX4_15 (by decide) rfl rfl ?_
      refine E_iload_n dX4_copyFrom_24 rfl ?_
      refine E_aload_n dX4_copyFrom_25 rfl ?_
      refine E_get dX4_copyFrom_26 fX4_15 (by decide) rfl rfl ?_
      refine E_iload_n dX4_copyFrom_29 rfl ?_
      refine E_ialdN (j := i) dX4_copyFrom_30 (by decide) rfl (by omega) (by decide) ?_
      refine E_iastN (j := i) (f2 := cpy b sc (i + 1)) (L2 := [(7, .inr (4, [.ref 8, .ref 9, .int (nI p)])), (8, .inl (false, 8, (cpy a sn (i + 1)))), (9, .inl (false, 8, (cpy b sc (i + 1)))), (15, .inr (4, [.ref 16, .ref 17, .int (nI q)])), (16, .inl (false, 8, sn)), (17, .inl (false, 8, sc))]) dX4_copyFrom_31 (by decide) rfl (by omega) (by decide) (cpy_s _ _ _) rfl ?_
      refine E_iinc (y := nI (i + 1)) (l2 := [.ref 7, .ref 15, .int (nI (i + 1))]) dX4_copyFrom_32 rfl (nI_1 _) (by decide) rfl ?_
      refine E_goto (tgt := 2) dX4_copyFrom_35 (by decide) ?_
      exact ih
  have e0 := L2 0 (by decide)
  rw [cpy_0, cpy_0] at e0
  exact e0

set_option maxHeartbeats 4000000 in
set_option maxRecDepth 20000 in
theorem c_sic_7_23 (d : Nat) (a b sn sc : Nat → Int32) (p q : Nat) (ha : ∀ j, 8 ≤ j → a j = sn j) (hb : ∀ j, 8 ≤ j → b j = sc j) : FC YX4_copyFrom d [.ref 7, .ref 23, .null] [(7, .inr (4, [.ref 8, .ref 9, .int (nI p)])), (8, .inl (false, 8, a)), (9, .inl (false, 8, b)), (23, .inr (4, [.ref 24, .ref 25, .int (nI q)])), (24, .inl (false, 8, sn)), (25, .inl (false, 8, sc))] (none) [(7, .inr (4, [.ref 8, .ref 9, .int (nI q)])), (8, .inl (false, 8, sn)), (9, .inl (false, 8, sc)), (23, .inr (4, [.ref 24, .ref 25, .int (nI q)])), (24, .inl (false, 8, sn)), (25, .inl (false, 8, sc))] := by
  intro hp
  refine E_iconst (v := 0) dX4_copyFrom_0 (by decide) ?_
  refine E_istore_n (l2 := [.ref 7, .ref 23, .int 0]) dX4_copyFrom_1 rfl (by decide) rfl ?_
  have L2 : ∀ i, i ≤ 8 → E YX4_copyFrom d 2 [.ref 7, .ref 23, .int (nI i)] [] (hov hp [(7, .inr (4, [.ref 8, .ref 9, .int (nI p)])), (8, .inl (false, 8, (cpy a sn i))), (9, .inl (false, 8, (cpy b sc i))), (23, .inr (4, [.ref 24, .ref 25, .int (nI q)])), (24, .inl (false, 8, sn)), (25, .inl (false, 8, sc))]) (fun v h' => v = none ∧ h' = hov hp [(7, .inr (4, [.ref 8, .ref 9, .int (nI q)])), (8, .inl (false, 8, sn)), (9, .inl (false, 8, sc)), (23, .inr (4, [.ref 24, .ref 25, .int (nI q)])), (24, .inl (false, 8, sn)), (25, .inl (false, 8, sc))]) := by
    refine down 8 ?_ ?_
    · refine E_iload_n dX4_copyFrom_2 rfl ?_
      refine E_bipush (v := 8) dX4_copyFrom_3 (by decide) ?_
      refine E_icmp_ge (tgt := 38) dX4_copyFrom_5 (by decide) (fun _ => ?_) (fun c => absurd (by decide) c)
      refine E_aload_n dX4_copyFrom_38 rfl ?_
      refine E_aload_n dX4_copyFrom_39 rfl ?_
      refine E_get dX4_copyFrom_40 fX4_18 (by decide) rfl rfl ?_
      refine E_puti (fs2 := [.ref 8, .ref 9, .int (nI q)]) (L2 := [(7, .inr (4, [.ref 8, .ref 9, .int (nI q)])), (8, .inl (false, 8, (cpy a sn 8))), (9, .inl (false, 8, (cpy b sc 8))), (23, .inr (4, [.ref 24, .ref 25, .int (nI q)])), (24, .inl (false, 8, sn)), (25, .inl (false, 8, sc))]) dX4_copyFrom_43 fX4_18 fpX4_2 (by decide) rfl (Nat.le_of_ble_eq_true rfl) rfl rfl ?_
      exact E_vretf dX4_copyFrom_46 rfl (by rw [cpy_all ha, cpy_all hb])
    · intro i hi ih
      refine E_iload_n dX4_copyFrom_2 rfl ?_
      refine E_bipush (v := 8) dX4_copyFrom_3 (by decide) ?_
      refine E_icmp_ge (tgt := 38) dX4_copyFrom_5 (by decide) (fun c => absurd c (cI_nle (n := 8) rfl hi (by decide))) (fun _ => ?_)
      refine E_aload_n dX4_copyFrom_8 rfl ?_
      refine E_get dX4_copyFrom_9 fX4_9 (by decide) rfl rfl ?_
      refine E_iload_n dX4_copyFrom_12 rfl ?_
      refine E_aload_n dX4_copyFrom_13 rfl ?_
      refine E_get dX4_copyFrom_14 fX4_9 (by decide) rfl rfl ?_
      refine E_iload_n dX4_copyFrom_17 rfl ?_
      refine E_ialdN (j := i) dX4_copyFrom_18 (by decide) rfl (by omega) (by decide) ?_
      refine E_iastN (j := i) (f2 := cpy a sn (i + 1)) (L2 := [(7, .inr (4, [.ref 8, .ref 9, .int (nI p)])), (8, .inl (false, 8, (cpy a sn (i + 1)))), (9, .inl (false, 8, (cpy b sc i))), (23, .inr (4, [.ref 24, .ref 25, .int (nI q)])), (24, .inl (false, 8, sn)), (25, .inl (false, 8, sc))]) dX4_copyFrom_19 (by decide) rfl (by omega) (by decide) (cpy_s _ _ _) rfl ?_
      refine E_aload_n dX4_copyFrom_20 rfl ?_
      refine E_get dX4_copyFrom_21 fX4_15 (by decide) rfl rfl ?_
      refine E_iload_n dX4_copyFrom_24 rfl ?_
      refine E_aload_n dX4_copyFrom_25 rfl ?_
      refine E_get dX4_copyFrom_26 fX4_15 (by decide) rfl rfl ?_
      refine E_iload_n dX4_copyFrom_29 rfl ?_
      refine E_ialdN (j := i) dX4_copyFrom_30 (by decide) rfl (by omega) (by decide) ?_
      refine E_iastN (j := i) (f2 := cpy b sc (i + 1)) (L2 := [(7, .inr (4, [.ref 8, .ref 9, .int (nI p)])), (8, .inl (false, 8, (cpy a sn (i + 1)))), (9, .inl (false, 8, (cpy b sc (i + 1)))), (23, .inr (4, [.ref 24, .ref 25, .int (nI q)])), (24, .inl (false, 8, sn)), (25, .inl (false, 8, sc))]) dX4_copyFrom_31 (by decide) rfl (by omega) (by decide) (cpy_s _ _ _) rfl ?_
      refine E_iinc (y := nI (i + 1)) (l2 := [.ref 7, .ref 23, .int (nI (i + 1))]) dX4_copyFrom_32 rfl (nI_1 _) (by decide) rfl ?_
      refine E_goto (tgt := 2) dX4_copyFrom_35 (by decide) ?_
      exact ih
  have e0 := L2 0 (by decide)
  rw [cpy_0, cpy_0] at e0
  exact e0

set_option maxHeartbeats 4000000 in
set_option maxRecDepth 20000 in
theorem t_seen_o1 (d : Nat) (rk : Nat) (x y : Int32) (h1 : inL (Int32.toInt64 x) 0 20 = false) : FC YX6_seen (d + 1) [.ref 0, .int x, .int y] [(0, .inr (6, [.ref 1, .ref 5, .ref 7, .ref 10, .ref 18, .ref 26, .ref 31, .ref 35, .ref 37, .int (nI rk)]))] (some (.int (-2))) [(0, .inr (6, [.ref 1, .ref 5, .ref 7, .ref 10, .ref 18, .ref 26, .ref 31, .ref 35, .ref 37, .int (nI rk)]))] := by
  intro hp
  refine E_iload_n dX6_seen_0 rfl ?_
  refine E_i2l dX6_seen_1 ?_
  refine E_lconst (v := 0) dX6_seen_2 (by decide) ?_
  refine E_ldc2 dX6_seen_3 qX6_202 ?_
  refine E_callS (As := [.long (Int32.toInt64 x), .long 0, .long 20]) (l' := [.long (Int32.toInt64 x), .null, .long 0, .null, .long 20, .null]) (st := []) dX6_seen_6 kX6_73 sX6_isIn MX6_isIn rfl rfl (Nat.le_of_ble_eq_true rfl) (FC.use (c_isIn d _ _ _) rfl (L2 := [(0, .inr (6, [.ref 1, .ref 5, .ref 7, .ref 10, .ref 18, .ref 26, .ref 31, .ref 35, .ref 37, .int (nI rk)]))]) rfl) (Nat.le_of_ble_eq_true rfl) (fun _ _ hq9 => E_fgo ?_ hq9)
  show E _ _ 9 [.ref 0, .int x, .int y] [.int (b2i (inL (Int32.toInt64 x) 0 20))] (hov hp [(0, .inr (6, [.ref 1, .ref 5, .ref 7, .ref 10, .ref 18, .ref 26, .ref 31, .ref 35, .ref 37, .int (nI rk)]))]) _
  refine E_if_eq (tgt := 24) dX6_seen_9 (by decide) (fun _ => ?_) (fun c => (b2i_x0 h1 c).elim)
  refine E_bipush (v := (-2)) dX6_seen_24 (by decide) ?_
  exact E_iretf dX6_seen_26 rfl rfl rfl rfl

set_option maxHeartbeats 4000000 in
set_option maxRecDepth 20000 in
theorem t_seen_o2 (d : Nat) (rk : Nat) (x y : Int32) (h1 : inL (Int32.toInt64 x) 0 20 = true) (h2 : inL (Int32.toInt64 y) 0 6 = false) : FC YX6_seen (d + 1) [.ref 0, .int x, .int y] [(0, .inr (6, [.ref 1, .ref 5, .ref 7, .ref 10, .ref 18, .ref 26, .ref 31, .ref 35, .ref 37, .int (nI rk)]))] (some (.int (-2))) [(0, .inr (6, [.ref 1, .ref 5, .ref 7, .ref 10, .ref 18, .ref 26, .ref 31, .ref 35, .ref 37, .int (nI rk)]))] := by
  intro hp
  refine E_iload_n dX6_seen_0 rfl ?_
  refine E_i2l dX6_seen_1 ?_
  refine E_lconst (v := 0) dX6_seen_2 (by decide) ?_
  refine E_ldc2 dX6_seen_3 qX6_202 ?_
  refine E_callS (As := [.long (Int32.toInt64 x), .long 0, .long 20]) (l' := [.long (Int32.toInt64 x), .null, .long 0, .null, .long 20, .null]) (st := []) dX6_seen_6 kX6_73 sX6_isIn MX6_isIn rfl rfl (Nat.le_of_ble_eq_true rfl) (FC.use (c_isIn d _ _ _) rfl (L2 := [(0, .inr (6, [.ref 1, .ref 5, .ref 7, .ref 10, .ref 18, .ref 26, .ref 31, .ref 35, .ref 37, .int (nI rk)]))]) rfl) (Nat.le_of_ble_eq_true rfl) (fun _ _ hq9 => E_fgo ?_ hq9)
  show E _ _ 9 [.ref 0, .int x, .int y] [.int (b2i (inL (Int32.toInt64 x) 0 20))] (hov hp [(0, .inr (6, [.ref 1, .ref 5, .ref 7, .ref 10, .ref 18, .ref 26, .ref 31, .ref 35, .ref 37, .int (nI rk)]))]) _
  refine E_if_eq (tgt := 24) dX6_seen_9 (by decide) (fun c => (b2i_x1 h1 c).elim) (fun _ => ?_)
  refine E_iload_n dX6_seen_12 rfl ?_
  refine E_i2l dX6_seen_13 ?_
  refine E_lconst (v := 0) dX6_seen_14 (by decide) ?_
  refine E_ldc2 dX6_seen_15 qX6_90 ?_
  refine E_callS (As := [.long (Int32.toInt64 y), .long 0, .long 6]) (l' := [.long (Int32.toInt64 y), .null, .long 0, .null, .long 6, .null]) (st := []) dX6_seen_18 kX6_73 sX6_isIn MX6_isIn rfl rfl (Nat.le_of_ble_eq_true rfl) (FC.use (c_isIn d _ _ _) rfl (L2 := [(0, .inr (6, [.ref 1, .ref 5, .ref 7, .ref 10, .ref 18, .ref 26, .ref 31, .ref 35, .ref 37, .int (nI rk)]))]) rfl) (Nat.le_of_ble_eq_true rfl) (fun _ _ hq9 => E_fgo ?_ hq9)
  show E _ _ 21 [.ref 0, .int x, .int y] [.int (b2i (inL (Int32.toInt64 y) 0 6))] (hov hp [(0, .inr (6, [.ref 1, .ref 5, .ref 7, .ref 10, .ref 18, .ref 26, .ref 31, .ref 35, .ref 37, .int (nI rk)]))]) _
  refine E_if_ne (tgt := 27) dX6_seen_21 (by decide) (fun c => (b2i_x0 h2 c).elim) (fun _ => ?_)
  refine E_bipush (v := (-2)) dX6_seen_24 (by decide) ?_
  exact E_iretf dX6_seen_26 rfl rfl rfl rfl

set_option maxHeartbeats 4000000 in
set_option maxRecDepth 20000 in
theorem t_seen_ok (d : Nat) (rk : Nat) (sn sc : Nat → Int32) (q : Nat) (hq : q < 8) (x y : Int32) (h1 : inL (Int32.toInt64 x) 0 20 = true) (h2 : inL (Int32.toInt64 y) 0 6 = true) : FC YX6_seen (d + 1) [.ref 0, .int x, .int y] [(0, .inr (6, [.ref 1, .ref 5, .ref 7, .ref 10, .ref 18, .ref 26, .ref 31, .ref 35, .ref 37, .int (nI rk)])), (7, .inr (4, [.ref 8, .ref 9, .int (nI q)])), (8, .inl (false, 8, sn)), (9, .inl (false, 8, sc))] (some (.int (nI (q + 1)))) [(0, .inr (6, [.ref 1, .ref 5, .ref 7, .ref 10, .ref 18, .ref 26, .ref 31, .ref 35, .ref 37, .int (nI rk)])), (7, .inr (4, [.ref 8, .ref 9, .int (nI (q + 1))])), (8, .inl (false, 8, (upd sn q x))), (9, .inl (false, 8, (upd sc q y)))] := by
  intro hp
  refine E_iload_n dX6_seen_0 rfl ?_
  refine E_i2l dX6_seen_1 ?_
  refine E_lconst (v := 0) dX6_seen_2 (by decide) ?_
  refine E_ldc2 dX6_seen_3 qX6_202 ?_
  refine E_callS (As := [.long (Int32.toInt64 x), .long 0, .long 20]) (l' := [.long (Int32.toInt64 x), .null, .long 0, .null, .long 20, .null]) (st := []) dX6_seen_6 kX6_73 sX6_isIn MX6_isIn rfl rfl (Nat.le_of_ble_eq_true rfl) (FC.use (c_isIn d _ _ _) rfl (L2 := [(0, .inr (6, [.ref 1, .ref 5, .ref 7, .ref 10, .ref 18, .ref 26, .ref 31, .ref 35, .ref 37, .int (nI rk)])), (7, .inr (4, [.ref 8, .ref 9, .int (nI q)])), (8, .inl (false, 8, sn)), (9, .inl (false, 8, sc))]) rfl) (Nat.le_of_ble_eq_true rfl) (fun _ _ hq9 => E_fgo ?_ hq9)
  show E _ _ 9 [.ref 0, .int x, .int y] [.int (b2i (inL (Int32.toInt64 x) 0 20))] (hov hp [(0, .inr (6, [.ref 1, .ref 5, .ref 7, .ref 10, .ref 18, .ref 26, .ref 31, .ref 35, .ref 37, .int (nI rk)])), (7, .inr (4, [.ref 8, .ref 9, .int (nI q)])), (8, .inl (false, 8, sn)), (9, .inl (false, 8, sc))]) _
  refine E_if_eq (tgt := 24) dX6_seen_9 (by decide) (fun c => (b2i_x1 h1 c).elim) (fun _ => ?_)
  refine E_iload_n dX6_seen_12 rfl ?_
  refine E_i2l dX6_seen_13 ?_
  refine E_lconst (v := 0) dX6_seen_14 (by decide) ?_
  refine E_ldc2 dX6_seen_15 qX6_90 ?_
  refine E_callS (As := [.long (Int32.toInt64 y), .long 0, .long 6]) (l' := [.long (Int32.toInt64 y), .null, .long 0, .null, .long 6, .null]) (st := []) dX6_seen_18 kX6_73 sX6_isIn MX6_isIn rfl rfl (Nat.le_of_ble_eq_true rfl) (FC.use (c_isIn d _ _ _) rfl (L2 := [(0, .inr (6, [.ref 1, .ref 5, .ref 7, .ref 10, .ref 18, .ref 26, .ref 31, .ref 35, .ref 37, .int (nI rk)])), (7, .inr (4, [.ref 8, .ref 9, .int (nI q)])), (8, .inl (false, 8, sn)), (9, .inl (false, 8, sc))]) rfl) (Nat.le_of_ble_eq_true rfl) (fun _ _ hq9 => E_fgo ?_ hq9)
  show E _ _ 21 [.ref 0, .int x, .int y] [.int (b2i (inL (Int32.toInt64 y) 0 6))] (hov hp [(0, .inr (6, [.ref 1, .ref 5, .ref 7, .ref 10, .ref 18, .ref 26, .ref 31, .ref 35, .ref 37, .int (nI rk)])), (7, .inr (4, [.ref 8, .ref 9, .int (nI q)])), (8, .inl (false, 8, sn)), (9, .inl (false, 8, sc))]) _
  refine E_if_ne (tgt := 27) dX6_seen_21 (by decide) (fun _ => ?_) (fun c => (b2i_x1 h2 c).elim)
  refine E_aload_n dX6_seen_27 rfl ?_
  refine E_get dX6_seen_28 fX6_26 (by decide) rfl rfl ?_
  refine E_iload_n dX6_seen_31 rfl ?_
  refine E_iload_n dX6_seen_32 rfl ?_
  refine E_callV (As := [.int x, .int y]) (l' := [.ref 7, .int x, .int y]) (st := []) dX6_seen_33 kX6_204 iX4_append vX4_append (by decide) rfl rfl MX4_append rfl rfl (Nat.le_of_ble_eq_true rfl) (FC.use (c_si_add d sn sc q hq x y) rfl (L2 := [(0, .inr (6, [.ref 1, .ref 5, .ref 7, .ref 10, .ref 18, .ref 26, .ref 31, .ref 35, .ref 37, .int (nI rk)])), (7, .inr (4, [.ref 8, .ref 9, .int (nI (q + 1))])), (8, .inl (false, 8, (upd sn q x))), (9, .inl (false, 8, (upd sc q y)))]) rfl) (Nat.le_of_ble_eq_true rfl) (fun _ _ hq9 => E_fgo ?_ hq9)
  show E _ _ 36 [.ref 0, .int x, .int y] [.int (b2i true)] (hov hp [(0, .inr (6, [.ref 1, .ref 5, .ref 7, .ref 10, .ref 18, .ref 26, .ref 31, .ref 35, .ref 37, .int (nI rk)])), (7, .inr (4, [.ref 8, .ref 9, .int (nI (q + 1))])), (8, .inl (false, 8, (upd sn q x))), (9, .inl (false, 8, (upd sc q y)))]) _
  refine E_if_eq (tgt := 49) dX6_seen_36 (by decide) (fun c => (b2i_x1 rfl c).elim) (fun _ => ?_)
  refine E_aload_n dX6_seen_39 rfl ?_
  refine E_get dX6_seen_40 fX6_26 (by decide) rfl rfl ?_
  refine E_get dX6_seen_43 fX6_206 (by decide) rfl rfl ?_
  refine E_goto (tgt := 51) dX6_seen_46 (by decide) ?_
  exact E_iretf dX6_seen_51 rfl rfl rfl rfl

set_option maxHeartbeats 4000000 in
set_option maxRecDepth 20000 in
theorem t_seen_full (d : Nat) (rk : Nat) (sn sc : Nat → Int32) (x y : Int32) (h1 : inL (Int32.toInt64 x) 0 20 = true) (h2 : inL (Int32.toInt64 y) 0 6 = true) : FC YX6_seen (d + 1) [.ref 0, .int x, .int y] [(0, .inr (6, [.ref 1, .ref 5, .ref 7, .ref 10, .ref 18, .ref 26, .ref 31, .ref 35, .ref 37, .int (nI rk)])), (7, .inr (4, [.ref 8, .ref 9, .int (nI 8)])), (8, .inl (false, 8, sn)), (9, .inl (false, 8, sc))] (some (.int (-4))) [(0, .inr (6, [.ref 1, .ref 5, .ref 7, .ref 10, .ref 18, .ref 26, .ref 31, .ref 35, .ref 37, .int (nI rk)])), (7, .inr (4, [.ref 8, .ref 9, .int (nI 8)])), (8, .inl (false, 8, sn)), (9, .inl (false, 8, sc))] := by
  intro hp
  refine E_iload_n dX6_seen_0 rfl ?_
  refine E_i2l dX6_seen_1 ?_
  refine E_lconst (v := 0) dX6_seen_2 (by decide) ?_
  refine E_ldc2 dX6_seen_3 qX6_202 ?_
  refine E_callS (As := [.long (Int32.toInt64 x), .long 0, .long 20]) (l' := [.long (Int32.toInt64 x), .null, .long 0, .null, .long 20, .null]) (st := []) dX6_seen_6 kX6_73 sX6_isIn MX6_isIn rfl rfl (Nat.le_of_ble_eq_true rfl) (FC.use (c_isIn d _ _ _) rfl (L2 := [(0, .inr (6, [.ref 1, .ref 5, .ref 7, .ref 10, .ref 18, .ref 26, .ref 31, .ref 35, .ref 37, .int (nI rk)])), (7, .inr (4, [.ref 8, .ref 9, .int (nI 8)])), (8, .inl (false, 8, sn)), (9, .inl (false, 8, sc))]) rfl) (Nat.le_of_ble_eq_true rfl) (fun _ _ hq9 => E_fgo ?_ hq9)
  show E _ _ 9 [.ref 0, .int x, .int y] [.int (b2i (inL (Int32.toInt64 x) 0 20))] (hov hp [(0, .inr (6, [.ref 1, .ref 5, .ref 7, .ref 10, .ref 18, .ref 26, .ref 31, .ref 35, .ref 37, .int (nI rk)])), (7, .inr (4, [.ref 8, .ref 9, .int (nI 8)])), (8, .inl (false, 8, sn)), (9, .inl (false, 8, sc))]) _
  refine E_if_eq (tgt := 24) dX6_seen_9 (by decide) (fun c => (b2i_x1 h1 c).elim) (fun _ => ?_)
  refine E_iload_n dX6_seen_12 rfl ?_
  refine E_i2l dX6_seen_13 ?_
  refine E_lconst (v := 0) dX6_seen_14 (by decide) ?_
  refine E_ldc2 dX6_seen_15 qX6_90 ?_
  refine E_callS (As := [.long (Int32.toInt64 y), .long 0, .long 6]) (l' := [.long (Int32.toInt64 y), .null, .long 0, .null, .long 6, .null]) (st := []) dX6_seen_18 kX6_73 sX6_isIn MX6_isIn rfl rfl (Nat.le_of_ble_eq_true rfl) (FC.use (c_isIn d _ _ _) rfl (L2 := [(0, .inr (6, [.ref 1, .ref 5, .ref 7, .ref 10, .ref 18, .ref 26, .ref 31, .ref 35, .ref 37, .int (nI rk)])), (7, .inr (4, [.ref 8, .ref 9, .int (nI 8)])), (8, .inl (false, 8, sn)), (9, .inl (false, 8, sc))]) rfl) (Nat.le_of_ble_eq_true rfl) (fun _ _ hq9 => E_fgo ?_ hq9)
  show E _ _ 21 [.ref 0, .int x, .int y] [.int (b2i (inL (Int32.toInt64 y) 0 6))] (hov hp [(0, .inr (6, [.ref 1, .ref 5, .ref 7, .ref 10, .ref 18, .ref 26, .ref 31, .ref 35, .ref 37, .int (nI rk)])), (7, .inr (4, [.ref 8, .ref 9, .int (nI 8)])), (8, .inl (false, 8, sn)), (9, .inl (false, 8, sc))]) _
  refine E_if_ne (tgt := 27) dX6_seen_21 (by decide) (fun _ => ?_) (fun c => (b2i_x1 h2 c).elim)
  refine E_aload_n dX6_seen_27 rfl ?_
  refine E_get dX6_seen_28 fX6_26 (by decide) rfl rfl ?_
  refine E_iload_n dX6_seen_31 rfl ?_
  refine E_iload_n dX6_seen_32 rfl ?_
  refine E_callV (As := [.int x, .int y]) (l' := [.ref 7, .int x, .int y]) (st := []) dX6_seen_33 kX6_204 iX4_append vX4_append (by decide) rfl rfl MX4_append rfl rfl (Nat.le_of_ble_eq_true rfl) (FC.use (c_si_full d sn sc x y) rfl (L2 := [(0, .inr (6, [.ref 1, .ref 5, .ref 7, .ref 10, .ref 18, .ref 26, .ref 31, .ref 35, .ref 37, .int (nI rk)])), (7, .inr (4, [.ref 8, .ref 9, .int (nI 8)])), (8, .inl (false, 8, sn)), (9, .inl (false, 8, sc))]) rfl) (Nat.le_of_ble_eq_true rfl) (fun _ _ hq9 => E_fgo ?_ hq9)
  show E _ _ 36 [.ref 0, .int x, .int y] [.int (b2i false)] (hov hp [(0, .inr (6, [.ref 1, .ref 5, .ref 7, .ref 10, .ref 18, .ref 26, .ref 31, .ref 35, .ref 37, .int (nI rk)])), (7, .inr (4, [.ref 8, .ref 9, .int (nI 8)])), (8, .inl (false, 8, sn)), (9, .inl (false, 8, sc))]) _
  refine E_if_eq (tgt := 49) dX6_seen_36 (by decide) (fun _ => ?_) (fun c => (b2i_x0 rfl c).elim)
  refine E_bipush (v := (-4)) dX6_seen_49 (by decide) ?_
  exact E_iretf dX6_seen_51 rfl rfl rfl rfl

set_option maxHeartbeats 4000000 in
set_option maxRecDepth 20000 in
theorem t_forget (d : Nat) (rk : Nat) (sn sc : Nat → Int32) (q : Nat) : FC YX6_forget d [.ref 0, .null] [(0, .inr (6, [.ref 1, .ref 5, .ref 7, .ref 10, .ref 18, .ref 26, .ref 31, .ref 35, .ref 37, .int (nI rk)])), (7, .inr (4, [.ref 8, .ref 9, .int (nI q)])), (8, .inl (false, 8, sn)), (9, .inl (false, 8, sc))] (some (.int (nI q))) [(0, .inr (6, [.ref 1, .ref 5, .ref 7, .ref 10, .ref 18, .ref 26, .ref 31, .ref 35, .ref 37, .int (nI rk)])), (7, .inr (4, [.ref 8, .ref 9, .int (nI 0)])), (8, .inl (false, 8, sn)), (9, .inl (false, 8, sc))] := by
  intro hp
  refine E_aload_n dX6_forget_0 rfl ?_
  refine E_get dX6_forget_1 fX6_26 (by decide) rfl rfl ?_
  refine E_get dX6_forget_4 fX6_206 (by decide) rfl rfl ?_
  refine E_istore_n (l2 := [.ref 0, .int (nI q)]) dX6_forget_7 rfl (by decide) rfl ?_
  refine E_aload_n dX6_forget_8 rfl ?_
  refine E_get dX6_forget_9 fX6_26 (by decide) rfl rfl ?_
  refine E_iconst (v := 0) dX6_forget_12 (by decide) ?_
  refine E_puti (fs2 := [.ref 8, .ref 9, .int 0]) (L2 := [(0, .inr (6, [.ref 1, .ref 5, .ref 7, .ref 10, .ref 18, .ref 26, .ref 31, .ref 35, .ref 37, .int (nI rk)])), (7, .inr (4, [.ref 8, .ref 9, .int 0])), (8, .inl (false, 8, sn)), (9, .inl (false, 8, sc))]) dX6_forget_13 fX6_206 fpX4_2 (by decide) rfl (Nat.le_of_ble_eq_true rfl) rfl rfl ?_
  refine E_iload_n dX6_forget_16 rfl ?_
  exact E_iretf dX6_forget_17 rfl rfl rfl rfl

set_option maxHeartbeats 4000000 in
set_option maxRecDepth 20000 in
theorem t_img_out (d : Nat) (rk : Nat) (v : Int32) (hv : inL (Int32.toInt64 v) 0 1 = false) : FC YX6_image (d + 1) [.ref 0, .int v, .null] [(0, .inr (6, [.ref 1, .ref 5, .ref 7, .ref 10, .ref 18, .ref 26, .ref 31, .ref 35, .ref 37, .int (nI rk)]))] (some (.int (-2))) [(0, .inr (6, [.ref 1, .ref 5, .ref 7, .ref 10, .ref 18, .ref 26, .ref 31, .ref 35, .ref 37, .int (nI rk)]))] := by
  intro hp
  refine E_iload_n dX6_image_0 rfl ?_
  refine E_i2l dX6_image_1 ?_
  refine E_lconst (v := 0) dX6_image_2 (by decide) ?_
  refine E_lconst (v := 1) dX6_image_3 (by decide) ?_
  refine E_callS (As := [.long (Int32.toInt64 v), .long 0, .long 1]) (l' := [.long (Int32.toInt64 v), .null, .long 0, .null, .long 1, .null]) (st := []) dX6_image_4 kX6_73 sX6_isIn MX6_isIn rfl rfl (Nat.le_of_ble_eq_true rfl) (FC.use (c_isIn d _ _ _) rfl (L2 := [(0, .inr (6, [.ref 1, .ref 5, .ref 7, .ref 10, .ref 18, .ref 26, .ref 31, .ref 35, .ref 37, .int (nI rk)]))]) rfl) (Nat.le_of_ble_eq_true rfl) (fun _ _ hq9 => E_fgo ?_ hq9)
  show E _ _ 7 [.ref 0, .int v, .null] [.int (b2i (inL (Int32.toInt64 v) 0 1))] (hov hp [(0, .inr (6, [.ref 1, .ref 5, .ref 7, .ref 10, .ref 18, .ref 26, .ref 31, .ref 35, .ref 37, .int (nI rk)]))]) _
  refine E_if_ne (tgt := 13) dX6_image_7 (by decide) (fun c => (b2i_x0 hv c).elim) (fun _ => ?_)
  refine E_bipush (v := (-2)) dX6_image_10 (by decide) ?_
  exact E_iretf dX6_image_12 rfl rfl rfl rfl

set_option maxHeartbeats 4000000 in
set_option maxRecDepth 20000 in
theorem t_res_out (d : Nat) (rk : Nat) (v : Int32) (hv : inL (Int32.toInt64 v) 0 1 = false) : FC YX6_restore (d + 1) [.ref 0, .int v, .null] [(0, .inr (6, [.ref 1, .ref 5, .ref 7, .ref 10, .ref 18, .ref 26, .ref 31, .ref 35, .ref 37, .int (nI rk)]))] (some (.int (-2))) [(0, .inr (6, [.ref 1, .ref 5, .ref 7, .ref 10, .ref 18, .ref 26, .ref 31, .ref 35, .ref 37, .int (nI rk)]))] := by
  intro hp
  refine E_iload_n dX6_restore_0 rfl ?_
  refine E_i2l dX6_restore_1 ?_
  refine E_lconst (v := 0) dX6_restore_2 (by decide) ?_
  refine E_lconst (v := 1) dX6_restore_3 (by decide) ?_
  refine E_callS (As := [.long (Int32.toInt64 v), .long 0, .long 1]) (l' := [.long (Int32.toInt64 v), .null, .long 0, .null, .long 1, .null]) (st := []) dX6_restore_4 kX6_73 sX6_isIn MX6_isIn rfl rfl (Nat.le_of_ble_eq_true rfl) (FC.use (c_isIn d _ _ _) rfl (L2 := [(0, .inr (6, [.ref 1, .ref 5, .ref 7, .ref 10, .ref 18, .ref 26, .ref 31, .ref 35, .ref 37, .int (nI rk)]))]) rfl) (Nat.le_of_ble_eq_true rfl) (fun _ _ hq9 => E_fgo ?_ hq9)
  show E _ _ 7 [.ref 0, .int v, .null] [.int (b2i (inL (Int32.toInt64 v) 0 1))] (hov hp [(0, .inr (6, [.ref 1, .ref 5, .ref 7, .ref 10, .ref 18, .ref 26, .ref 31, .ref 35, .ref 37, .int (nI rk)]))]) _
  refine E_if_ne (tgt := 13) dX6_restore_7 (by decide) (fun c => (b2i_x0 hv c).elim) (fun _ => ?_)
  refine E_bipush (v := (-2)) dX6_restore_10 (by decide) ?_
  exact E_iretf dX6_restore_12 rfl rfl rfl rfl

set_option maxHeartbeats 4000000 in
set_option maxRecDepth 20000 in
theorem t_img_0 (d : Nat) (rk : Nat) (s i : CS) (sn sc a b : Nat → Int32) (q p : Nat) (k : Bool) (hA : Agr i s) (ha : ∀ j, 8 ≤ j → a j = sn j) (hb : ∀ j, 8 ≤ j → b j = sc j) : FC YX6_image (d + 1) [.ref 0, .int 0, .null] [(0, .inr (6, [.ref 1, .ref 5, .ref 7, .ref 10, .ref 18, .ref 26, .ref 31, .ref 35, .ref 37, .int (nI rk)])), (1, .inr (0, [.ref 2, .ref 3, .ref 4, .int (skn s), .int (sdr s), .int (swa s), .int (sbu s), .int (sni s)])), (2, .inl (false, 6, sce s)), (3, .inl (false, 6, she s)), (4, .inl (false, 6, stu s)), (7, .inr (4, [.ref 8, .ref 9, .int (nI q)])), (8, .inl (false, 8, sn)), (9, .inl (false, 8, sc)), (10, .inr (2, [.ref 11, .ref 15, .int (b2i k)])), (11, .inr (0, [.ref 12, .ref 13, .ref 14, .int (skn i), .int (sdr i), .int (swa i), .int (sbu i), .int (sni i)])), (12, .inl (false, 6, sce i)), (13, .inl (false, 6, she i)), (14, .inl (false, 6, stu i)), (15, .inr (4, [.ref 16, .ref 17, .int (nI p)])), (16, .inl (false, 8, a)), (17, .inl (false, 8, b))] (some (.int 1)) [(0, .inr (6, [.ref 1, .ref 5, .ref 7, .ref 10, .ref 18, .ref 26, .ref 31, .ref 35, .ref 37, .int (nI rk)])), (1, .inr (0, [.ref 2, .ref 3, .ref 4, .int (skn s), .int (sdr s), .int (swa s), .int (sbu s), .int (sni s)])), (2, .inl (false, 6, sce s)), (3, .inl (false, 6, she s)), (4, .inl (false, 6, stu s)), (7, .inr (4, [.ref 8, .ref 9, .int (nI q)])), (8, .inl (false, 8, sn)), (9, .inl (false, 8, sc)), (10, .inr (2, [.ref 11, .ref 15, .int (b2i true)])), (11, .inr (0, [.ref 12, .ref 13, .ref 14, .int (skn s), .int (sdr s), .int (swa s), .int (sbu s), .int (sni s)])), (12, .inl (false, 6, sce s)), (13, .inl (false, 6, she s)), (14, .inl (false, 6, stu s)), (15, .inr (4, [.ref 16, .ref 17, .int (nI q)])), (16, .inl (false, 8, sn)), (17, .inl (false, 8, sc))] := by
  intro hp
  refine E_iload_n dX6_image_0 rfl ?_
  refine E_i2l dX6_image_1 ?_
  refine E_lconst (v := 0) dX6_image_2 (by decide) ?_
  refine E_lconst (v := 1) dX6_image_3 (by decide) ?_
  refine E_callS (As := [.long (Int32.toInt64 0), .long 0, .long 1]) (l' := [.long (Int32.toInt64 0), .null, .long 0, .null, .long 1, .null]) (st := []) dX6_image_4 kX6_73 sX6_isIn MX6_isIn rfl rfl (Nat.le_of_ble_eq_true rfl) (FC.use (c_isIn d _ _ _) rfl (L2 := [(0, .inr (6, [.ref 1, .ref 5, .ref 7, .ref 10, .ref 18, .ref 26, .ref 31, .ref 35, .ref 37, .int (nI rk)])), (1, .inr (0, [.ref 2, .ref 3, .ref 4, .int (skn s), .int (sdr s), .int (swa s), .int (sbu s), .int (sni s)])), (2, .inl (false, 6, sce s)), (3, .inl (false, 6, she s)), (4, .inl (false, 6, stu s)), (7, .inr (4, [.ref 8, .ref 9, .int (nI q)])), (8, .inl (false, 8, sn)), (9, .inl (false, 8, sc)), (10, .inr (2, [.ref 11, .ref 15, .int (b2i k)])), (11, .inr (0, [.ref 12, .ref 13, .ref 14, .int (skn i), .int (sdr i), .int (swa i), .int (sbu i), .int (sni i)])), (12, .inl (false, 6, sce i)), (13, .inl (false, 6, she i)), (14, .inl (false, 6, stu i)), (15, .inr (4, [.ref 16, .ref 17, .int (nI p)])), (16, .inl (false, 8, a)), (17, .inl (false, 8, b))]) rfl) (Nat.le_of_ble_eq_true rfl) (fun _ _ hq9 => E_fgo ?_ hq9)
  show E _ _ 7 [.ref 0, .int 0, .null] [.int (b2i (inL (Int32.toInt64 0) 0 1))] (hov hp [(0, .inr (6, [.ref 1, .ref 5, .ref 7, .ref 10, .ref 18, .ref 26, .ref 31, .ref 35, .ref 37, .int (nI rk)])), (1, .inr (0, [.ref 2, .ref 3, .ref 4, .int (skn s), .int (sdr s), .int (swa s), .int (sbu s), .int (sni s)])), (2, .inl (false, 6, sce s)), (3, .inl (false, 6, she s)), (4, .inl (false, 6, stu s)), (7, .inr (4, [.ref 8, .ref 9, .int (nI q)])), (8, .inl (false, 8, sn)), (9, .inl (false, 8, sc)), (10, .inr (2, [.ref 11, .ref 15, .int (b2i k)])), (11, .inr (0, [.ref 12, .ref 13, .ref 14, .int (skn i), .int (sdr i), .int (swa i), .int (sbu i), .int (sni i)])), (12, .inl (false, 6, sce i)), (13, .inl (false, 6, she i)), (14, .inl (false, 6, stu i)), (15, .inr (4, [.ref 16, .ref 17, .int (nI p)])), (16, .inl (false, 8, a)), (17, .inl (false, 8, b))]) _
  refine E_if_ne (tgt := 13) dX6_image_7 (by decide) (fun _ => ?_) (fun c => (b2i_x1 (by decide) c).elim)
  refine E_iload_n dX6_image_13 rfl ?_
  refine E_if_ne (tgt := 24) dX6_image_14 (by decide) (fun c => by first | exact absurd c (by decide) | exact absurd (by decide) c) (fun _ => ?_)
  refine E_aload_n dX6_image_17 rfl ?_
  refine E_get dX6_image_18 fX6_33 (by decide) rfl rfl ?_
  refine E_goto (tgt := 28) dX6_image_21 (by decide) ?_
  refine E_astore_n (l2 := [.ref 0, .int 0, .ref 10]) dX6_image_28 rfl (by decide) rfl ?_
  refine E_aload_n dX6_image_29 rfl ?_
  refine E_get dX6_image_30 fX6_270 (by decide) rfl rfl ?_
  refine E_aload_n dX6_image_33 rfl ?_
  refine E_get dX6_image_34 fX6_12 (by decide) rfl rfl ?_
  refine E_callV (As := [.ref 1]) (l' := [.ref 11, .ref 1, .null]) (st := []) dX6_image_37 kX6_131 iX0_copyFrom vX0_copyFrom (by decide) rfl rfl MX0_copyFrom rfl rfl (Nat.le_of_ble_eq_true rfl) (FC.use (c_copy_11_1 d i s hA) rfl (L2 := [(0, .inr (6, [.ref 1, .ref 5, .ref 7, .ref 10, .ref 18, .ref 26, .ref 31, .ref 35, .ref 37, .int (nI rk)])), (1, .inr (0, [.ref 2, .ref 3, .ref 4, .int (skn s), .int (sdr s), .int (swa s), .int (sbu s), .int (sni s)])), (2, .inl (false, 6, sce s)), (3, .inl (false, 6, she s)), (4, .inl (false, 6, stu s)), (7, .inr (4, [.ref 8, .ref 9, .int (nI q)])), (8, .inl (false, 8, sn)), (9, .inl (false, 8, sc)), (10, .inr (2, [.ref 11, .ref 15, .int (b2i k)])), (11, .inr (0, [.ref 12, .ref 13, .ref 14, .int (skn s), .int (sdr s), .int (swa s), .int (sbu s), .int (sni s)])), (12, .inl (false, 6, sce s)), (13, .inl (false, 6, she s)), (14, .inl (false, 6, stu s)), (15, .inr (4, [.ref 16, .ref 17, .int (nI p)])), (16, .inl (false, 8, a)), (17, .inl (false, 8, b))]) rfl) (Nat.le_of_ble_eq_true rfl) (fun _ _ hq9 => E_fgo ?_ hq9)
  show E _ _ 40 [.ref 0, .int 0, .ref 10] [] (hov hp [(0, .inr (6, [.ref 1, .ref 5, .ref 7, .ref 10, .ref 18, .ref 26, .ref 31, .ref 35, .ref 37, .int (nI rk)])), (1, .inr (0, [.ref 2, .ref 3, .ref 4, .int (skn s), .int (sdr s), .int (swa s), .int (sbu s), .int (sni s)])), (2, .inl (false, 6, sce s)), (3, .inl (false, 6, she s)), (4, .inl (false, 6, stu s)), (7, .inr (4, [.ref 8, .ref 9, .int (nI q)])), (8, .inl (false, 8, sn)), (9, .inl (false, 8, sc)), (10, .inr (2, [.ref 11, .ref 15, .int (b2i k)])), (11, .inr (0, [.ref 12, .ref 13, .ref 14, .int (skn s), .int (sdr s), .int (swa s), .int (sbu s), .int (sni s)])), (12, .inl (false, 6, sce s)), (13, .inl (false, 6, she s)), (14, .inl (false, 6, stu s)), (15, .inr (4, [.ref 16, .ref 17, .int (nI p)])), (16, .inl (false, 8, a)), (17, .inl (false, 8, b))]) _
  refine E_aload_n dX6_image_40 rfl ?_
  refine E_get dX6_image_41 fX6_273 (by decide) rfl rfl ?_
  refine E_aload_n dX6_image_44 rfl ?_
  refine E_get dX6_image_45 fX6_26 (by decide) rfl rfl ?_
  refine E_callV (As := [.ref 7]) (l' := [.ref 15, .ref 7, .null]) (st := []) dX6_image_48 kX6_274 iX4_copyFrom vX4_copyFrom (by decide) rfl rfl MX4_copyFrom rfl rfl (Nat.le_of_ble_eq_true rfl) (FC.use (c_sic_15_7 d a b sn sc p q ha hb) rfl (L2 := [(0, .inr (6, [.ref 1, .ref 5, .ref 7, .ref 10, .ref 18, .ref 26, .ref 31, .ref 35, .ref 37, .int (nI rk)])), (1, .inr (0, [.ref 2, .ref 3, .ref 4, .int (skn s), .int (sdr s), .int (swa s), .int (sbu s), .int (sni s)])), (2, .inl (false, 6, sce s)), (3, .inl (false, 6, she s)), (4, .inl (false, 6, stu s)), (7, .inr (4, [.ref 8, .ref 9, .int (nI q)])), (8, .inl (false, 8, sn)), (9, .inl (false, 8, sc)), (10, .inr (2, [.ref 11, .ref 15, .int (b2i k)])), (11, .inr (0, [.ref 12, .ref 13, .ref 14, .int (skn s), .int (sdr s), .int (swa s), .int (sbu s), .int (sni s)])), (12, .inl (false, 6, sce s)), (13, .inl (false, 6, she s)), (14, .inl (false, 6, stu s)), (15, .inr (4, [.ref 16, .ref 17, .int (nI q)])), (16, .inl (false, 8, sn)), (17, .inl (false, 8, sc))]) rfl) (Nat.le_of_ble_eq_true rfl) (fun _ _ hq9 => E_fgo ?_ hq9)
  show E _ _ 51 [.ref 0, .int 0, .ref 10] [] (hov hp [(0, .inr (6, [.ref 1, .ref 5, .ref 7, .ref 10, .ref 18, .ref 26, .ref 31, .ref 35, .ref 37, .int (nI rk)])), (1, .inr (0, [.ref 2, .ref 3, .ref 4, .int (skn s), .int (sdr s), .int (swa s), .int (sbu s), .int (sni s)])), (2, .inl (false, 6, sce s)), (3, .inl (false, 6, she s)), (4, .inl (false, 6, stu s)), (7, .inr (4, [.ref 8, .ref 9, .int (nI q)])), (8, .inl (false, 8, sn)), (9, .inl (false, 8, sc)), (10, .inr (2, [.ref 11, .ref 15, .int (b2i k)])), (11, .inr (0, [.ref 12, .ref 13, .ref 14, .int (skn s), .int (sdr s), .int (swa s), .int (sbu s), .int (sni s)])), (12, .inl (false, 6, sce s)), (13, .inl (false, 6, she s)), (14, .inl (false, 6, stu s)), (15, .inr (4, [.ref 16, .ref 17, .int (nI q)])), (16, .inl (false, 8, sn)), (17, .inl (false, 8, sc))]) _
  refine E_aload_n dX6_image_51 rfl ?_
  refine E_iconst (v := 1) dX6_image_52 (by decide) ?_
  refine E_eqi (y := b2i true) rfl ?_
  refine E_putz (fs2 := [.ref 11, .ref 15, .int (b2i true)]) (L2 := [(0, .inr (6, [.ref 1, .ref 5, .ref 7, .ref 10, .ref 18, .ref 26, .ref 31, .ref 35, .ref 37, .int (nI rk)])), (1, .inr (0, [.ref 2, .ref 3, .ref 4, .int (skn s), .int (sdr s), .int (swa s), .int (sbu s), .int (sni s)])), (2, .inl (false, 6, sce s)), (3, .inl (false, 6, she s)), (4, .inl (false, 6, stu s)), (7, .inr (4, [.ref 8, .ref 9, .int (nI q)])), (8, .inl (false, 8, sn)), (9, .inl (false, 8, sc)), (10, .inr (2, [.ref 11, .ref 15, .int (b2i true)])), (11, .inr (0, [.ref 12, .ref 13, .ref 14, .int (skn s), .int (sdr s), .int (swa s), .int (sbu s), .int (sni s)])), (12, .inl (false, 6, sce s)), (13, .inl (false, 6, she s)), (14, .inl (false, 6, stu s)), (15, .inr (4, [.ref 16, .ref 17, .int (nI q)])), (16, .inl (false, 8, sn)), (17, .inl (false, 8, sc))]) dX6_image_53 fX6_277 fpX2_2 (by decide) rfl (Nat.le_of_ble_eq_true rfl) rfl rfl ?_
  refine E_iconst (v := 1) dX6_image_56 (by decide) ?_
  exact E_iretf dX6_image_57 rfl rfl rfl rfl

set_option maxHeartbeats 4000000 in
set_option maxRecDepth 20000 in
theorem t_res_0 (d : Nat) (rk : Nat) (s i : CS) (sn sc a b : Nat → Int32) (q p : Nat) (hA : Agr s i) (ha : ∀ j, 8 ≤ j → sn j = a j) (hb : ∀ j, 8 ≤ j → sc j = b j) : FC YX6_restore (d + 1) [.ref 0, .int 0, .null] [(0, .inr (6, [.ref 1, .ref 5, .ref 7, .ref 10, .ref 18, .ref 26, .ref 31, .ref 35, .ref 37, .int (nI rk)])), (1, .inr (0, [.ref 2, .ref 3, .ref 4, .int (skn s), .int (sdr s), .int (swa s), .int (sbu s), .int (sni s)])), (2, .inl (false, 6, sce s)), (3, .inl (false, 6, she s)), (4, .inl (false, 6, stu s)), (7, .inr (4, [.ref 8, .ref 9, .int (nI q)])), (8, .inl (false, 8, sn)), (9, .inl (false, 8, sc)), (10, .inr (2, [.ref 11, .ref 15, .int (b2i true)])), (11, .inr (0, [.ref 12, .ref 13, .ref 14, .int (skn i), .int (sdr i), .int (swa i), .int (sbu i), .int (sni i)])), (12, .inl (false, 6, sce i)), (13, .inl (false, 6, she i)), (14, .inl (false, 6, stu i)), (15, .inr (4, [.ref 16, .ref 17, .int (nI p)])), (16, .inl (false, 8, a)), (17, .inl (false, 8, b))] (some (.int 1)) [(0, .inr (6, [.ref 1, .ref 5, .ref 7, .ref 10, .ref 18, .ref 26, .ref 31, .ref 35, .ref 37, .int (nI rk)])), (1, .inr (0, [.ref 2, .ref 3, .ref 4, .int (skn i), .int (sdr i), .int (swa i), .int (sbu i), .int (sni i)])), (2, .inl (false, 6, sce i)), (3, .inl (false, 6, she i)), (4, .inl (false, 6, stu i)), (7, .inr (4, [.ref 8, .ref 9, .int (nI p)])), (8, .inl (false, 8, a)), (9, .inl (false, 8, b)), (10, .inr (2, [.ref 11, .ref 15, .int (b2i true)])), (11, .inr (0, [.ref 12, .ref 13, .ref 14, .int (skn i), .int (sdr i), .int (swa i), .int (sbu i), .int (sni i)])), (12, .inl (false, 6, sce i)), (13, .inl (false, 6, she i)), (14, .inl (false, 6, stu i)), (15, .inr (4, [.ref 16, .ref 17, .int (nI p)])), (16, .inl (false, 8, a)), (17, .inl (false, 8, b))] := by
  intro hp
  refine E_iload_n dX6_restore_0 rfl ?_
  refine E_i2l dX6_restore_1 ?_
  refine E_lconst (v := 0) dX6_restore_2 (by decide) ?_
  refine E_lconst (v := 1) dX6_restore_3 (by decide) ?_
  refine E_callS (As := [.long (Int32.toInt64 0), .long 0, .long 1]) (l' := [.long (Int32.toInt64 0), .null, .long 0, .null, .long 1, .null]) (st := []) dX6_restore_4 kX6_73 sX6_isIn MX6_isIn rfl rfl (Nat.le_of_ble_eq_true rfl) (FC.use (c_isIn d _ _ _) rfl (L2 := [(0, .inr (6, [.ref 1, .ref 5, .ref 7, .ref 10, .ref 18, .ref 26, .ref 31, .ref 35, .ref 37, .int (nI rk)])), (1, .inr (0, [.ref 2, .ref 3, .ref 4, .int (skn s), .int (sdr s), .int (swa s), .int (sbu s), .int (sni s)])), (2, .inl (false, 6, sce s)), (3, .inl (false, 6, she s)), (4, .inl (false, 6, stu s)), (7, .inr (4, [.ref 8, .ref 9, .int (nI q)])), (8, .inl (false, 8, sn)), (9, .inl (false, 8, sc)), (10, .inr (2, [.ref 11, .ref 15, .int (b2i true)])), (11, .inr (0, [.ref 12, .ref 13, .ref 14, .int (skn i), .int (sdr i), .int (swa i), .int (sbu i), .int (sni i)])), (12, .inl (false, 6, sce i)), (13, .inl (false, 6, she i)), (14, .inl (false, 6, stu i)), (15, .inr (4, [.ref 16, .ref 17, .int (nI p)])), (16, .inl (false, 8, a)), (17, .inl (false, 8, b))]) rfl) (Nat.le_of_ble_eq_true rfl) (fun _ _ hq9 => E_fgo ?_ hq9)
  show E _ _ 7 [.ref 0, .int 0, .null] [.int (b2i (inL (Int32.toInt64 0) 0 1))] (hov hp [(0, .inr (6, [.ref 1, .ref 5, .ref 7, .ref 10, .ref 18, .ref 26, .ref 31, .ref 35, .ref 37, .int (nI rk)])), (1, .inr (0, [.ref 2, .ref 3, .ref 4, .int (skn s), .int (sdr s), .int (swa s), .int (sbu s), .int (sni s)])), (2, .inl (false, 6, sce s)), (3, .inl (false, 6, she s)), (4, .inl (false, 6, stu s)), (7, .inr (4, [.ref 8, .ref 9, .int (nI q)])), (8, .inl (false, 8, sn)), (9, .inl (false, 8, sc)), (10, .inr (2, [.ref 11, .ref 15, .int (b2i true)])), (11, .inr (0, [.ref 12, .ref 13, .ref 14, .int (skn i), .int (sdr i), .int (swa i), .int (sbu i), .int (sni i)])), (12, .inl (false, 6, sce i)), (13, .inl (false, 6, she i)), (14, .inl (false, 6, stu i)), (15, .inr (4, [.ref 16, .ref 17, .int (nI p)])), (16, .inl (false, 8, a)), (17, .inl (false, 8, b))]) _
  refine E_if_ne (tgt := 13) dX6_restore_7 (by decide) (fun _ => ?_) (fun c => (b2i_x1 (by decide) c).elim)
  refine E_iload_n dX6_restore_13 rfl ?_
  refine E_if_ne (tgt := 24) dX6_restore_14 (by decide) (fun c => by first | exact absurd c (by decide) | exact absurd (by decide) c) (fun _ => ?_)
  refine E_aload_n dX6_restore_17 rfl ?_
  refine E_get dX6_restore_18 fX6_33 (by decide) rfl rfl ?_
  refine E_goto (tgt := 28) dX6_restore_21 (by decide) ?_
  refine E_astore_n (l2 := [.ref 0, .int 0, .ref 10]) dX6_restore_28 rfl (by decide) rfl ?_
  refine E_aload_n dX6_restore_29 rfl ?_
  refine E_get dX6_restore_30 fX6_277 (by decide) rfl rfl ?_
  refine E_if_ne (tgt := 39) dX6_restore_33 (by decide) (fun _ => ?_) (fun c => (b2i_x1 rfl c).elim)
  refine E_aload_n dX6_restore_39 rfl ?_
  refine E_get dX6_restore_40 fX6_12 (by decide) rfl rfl ?_
  refine E_aload_n dX6_restore_43 rfl ?_
  refine E_get dX6_restore_44 fX6_270 (by decide) rfl rfl ?_
  refine E_callV (As := [.ref 11]) (l' := [.ref 1, .ref 11, .null]) (st := []) dX6_restore_47 kX6_131 iX0_copyFrom vX0_copyFrom (by decide) rfl rfl MX0_copyFrom rfl rfl (Nat.le_of_ble_eq_true rfl) (FC.use (c_copy_1_11 d s i hA) rfl (L2 := [(0, .inr (6, [.ref 1, .ref 5, .ref 7, .ref 10, .ref 18, .ref 26, .ref 31, .ref 35, .ref 37, .int (nI rk)])), (1, .inr (0, [.ref 2, .ref 3, .ref 4, .int (skn i), .int (sdr i), .int (swa i), .int (sbu i), .int (sni i)])), (2, .inl (false, 6, sce i)), (3, .inl (false, 6, she i)), (4, .inl (false, 6, stu i)), (7, .inr (4, [.ref 8, .ref 9, .int (nI q)])), (8, .inl (false, 8, sn)), (9, .inl (false, 8, sc)), (10, .inr (2, [.ref 11, .ref 15, .int (b2i true)])), (11, .inr (0, [.ref 12, .ref 13, .ref 14, .int (skn i), .int (sdr i), .int (swa i), .int (sbu i), .int (sni i)])), (12, .inl (false, 6, sce i)), (13, .inl (false, 6, she i)), (14, .inl (false, 6, stu i)), (15, .inr (4, [.ref 16, .ref 17, .int (nI p)])), (16, .inl (false, 8, a)), (17, .inl (false, 8, b))]) rfl) (Nat.le_of_ble_eq_true rfl) (fun _ _ hq9 => E_fgo ?_ hq9)
  show E _ _ 50 [.ref 0, .int 0, .ref 10] [] (hov hp [(0, .inr (6, [.ref 1, .ref 5, .ref 7, .ref 10, .ref 18, .ref 26, .ref 31, .ref 35, .ref 37, .int (nI rk)])), (1, .inr (0, [.ref 2, .ref 3, .ref 4, .int (skn i), .int (sdr i), .int (swa i), .int (sbu i), .int (sni i)])), (2, .inl (false, 6, sce i)), (3, .inl (false, 6, she i)), (4, .inl (false, 6, stu i)), (7, .inr (4, [.ref 8, .ref 9, .int (nI q)])), (8, .inl (false, 8, sn)), (9, .inl (false, 8, sc)), (10, .inr (2, [.ref 11, .ref 15, .int (b2i true)])), (11, .inr (0, [.ref 12, .ref 13, .ref 14, .int (skn i), .int (sdr i), .int (swa i), .int (sbu i), .int (sni i)])), (12, .inl (false, 6, sce i)), (13, .inl (false, 6, she i)), (14, .inl (false, 6, stu i)), (15, .inr (4, [.ref 16, .ref 17, .int (nI p)])), (16, .inl (false, 8, a)), (17, .inl (false, 8, b))]) _
  refine E_aload_n dX6_restore_50 rfl ?_
  refine E_get dX6_restore_51 fX6_26 (by decide) rfl rfl ?_
  refine E_aload_n dX6_restore_54 rfl ?_
  refine E_get dX6_restore_55 fX6_273 (by decide) rfl rfl ?_
  refine E_callV (As := [.ref 15]) (l' := [.ref 7, .ref 15, .null]) (st := []) dX6_restore_58 kX6_274 iX4_copyFrom vX4_copyFrom (by decide) rfl rfl MX4_copyFrom rfl rfl (Nat.le_of_ble_eq_true rfl) (FC.use (c_sic_7_15 d sn sc a b q p ha hb) rfl (L2 := [(0, .inr (6, [.ref 1, .ref 5, .ref 7, .ref 10, .ref 18, .ref 26, .ref 31, .ref 35, .ref 37, .int (nI rk)])), (1, .inr (0, [.ref 2, .ref 3, .ref 4, .int (skn i), .int (sdr i), .int (swa i), .int (sbu i), .int (sni i)])), (2, .inl (false, 6, sce i)), (3, .inl (false, 6, she i)), (4, .inl (false, 6, stu i)), (7, .inr (4, [.ref 8, .ref 9, .int (nI p)])), (8, .inl (false, 8, a)), (9, .inl (false, 8, b)), (10, .inr (2, [.ref 11, .ref 15, .int (b2i true)])), (11, .inr (0, [.ref 12, .ref 13, .ref 14, .int (skn i), .int (sdr i), .int (swa i), .int (sbu i), .int (sni i)])), (12, .inl (false, 6, sce i)), (13, .inl (false, 6, she i)), (14, .inl (false, 6, stu i)), (15, .inr (4, [.ref 16, .ref 17, .int (nI p)])), (16, .inl (false, 8, a)), (17, .inl (false, 8, b))]) rfl) (Nat.le_of_ble_eq_true rfl) (fun _ _ hq9 => E_fgo ?_ hq9)
  show E _ _ 61 [.ref 0, .int 0, .ref 10] [] (hov hp [(0, .inr (6, [.ref 1, .ref 5, .ref 7, .ref 10, .ref 18, .ref 26, .ref 31, .ref 35, .ref 37, .int (nI rk)])), (1, .inr (0, [.ref 2, .ref 3, .ref 4, .int (skn i), .int (sdr i), .int (swa i), .int (sbu i), .int (sni i)])), (2, .inl (false, 6, sce i)), (3, .inl (false, 6, she i)), (4, .inl (false, 6, stu i)), (7, .inr (4, [.ref 8, .ref 9, .int (nI p)])), (8, .inl (false, 8, a)), (9, .inl (false, 8, b)), (10, .inr (2, [.ref 11, .ref 15, .int (b2i true)])), (11, .inr (0, [.ref 12, .ref 13, .ref 14, .int (skn i), .int (sdr i), .int (swa i), .int (sbu i), .int (sni i)])), (12, .inl (false, 6, sce i)), (13, .inl (false, 6, she i)), (14, .inl (false, 6, stu i)), (15, .inr (4, [.ref 16, .ref 17, .int (nI p)])), (16, .inl (false, 8, a)), (17, .inl (false, 8, b))]) _
  refine E_iconst (v := 1) dX6_restore_61 (by decide) ?_
  exact E_iretf dX6_restore_62 rfl rfl rfl rfl

set_option maxHeartbeats 4000000 in
set_option maxRecDepth 20000 in
theorem t_res_st_0 (d : Nat) (rk : Nat) : FC YX6_restore (d + 1) [.ref 0, .int 0, .null] [(0, .inr (6, [.ref 1, .ref 5, .ref 7, .ref 10, .ref 18, .ref 26, .ref 31, .ref 35, .ref 37, .int (nI rk)])), (10, .inr (2, [.ref 11, .ref 15, .int (b2i false)]))] (some (.int (-3))) [(0, .inr (6, [.ref 1, .ref 5, .ref 7, .ref 10, .ref 18, .ref 26, .ref 31, .ref 35, .ref 37, .int (nI rk)])), (10, .inr (2, [.ref 11, .ref 15, .int (b2i false)]))] := by
  intro hp
  refine E_iload_n dX6_restore_0 rfl ?_
  refine E_i2l dX6_restore_1 ?_
  refine E_lconst (v := 0) dX6_restore_2 (by decide) ?_
  refine E_lconst (v := 1) dX6_restore_3 (by decide) ?_
  refine E_callS (As := [.long (Int32.toInt64 0), .long 0, .long 1]) (l' := [.long (Int32.toInt64 0), .null, .long 0, .null, .long 1, .null]) (st := []) dX6_restore_4 kX6_73 sX6_isIn MX6_isIn rfl rfl (Nat.le_of_ble_eq_true rfl) (FC.use (c_isIn d _ _ _) rfl (L2 := [(0, .inr (6, [.ref 1, .ref 5, .ref 7, .ref 10, .ref 18, .ref 26, .ref 31, .ref 35, .ref 37, .int (nI rk)])), (10, .inr (2, [.ref 11, .ref 15, .int (b2i false)]))]) rfl) (Nat.le_of_ble_eq_true rfl) (fun _ _ hq9 => E_fgo ?_ hq9)
  show E _ _ 7 [.ref 0, .int 0, .null] [.int (b2i (inL (Int32.toInt64 0) 0 1))] (hov hp [(0, .inr (6, [.ref 1, .ref 5, .ref 7, .ref 10, .ref 18, .ref 26, .ref 31, .ref 35, .ref 37, .int (nI rk)])), (10, .inr (2, [.ref 11, .ref 15, .int (b2i false)]))]) _
  refine E_if_ne (tgt := 13) dX6_restore_7 (by decide) (fun _ => ?_) (fun c => (b2i_x1 (by decide) c).elim)
  refine E_iload_n dX6_restore_13 rfl ?_
  refine E_if_ne (tgt := 24) dX6_restore_14 (by decide) (fun c => by first | exact absurd c (by decide) | exact absurd (by decide) c) (fun _ => ?_)
  refine E_aload_n dX6_restore_17 rfl ?_
  refine E_get dX6_restore_18 fX6_33 (by decide) rfl rfl ?_
  refine E_goto (tgt := 28) dX6_restore_21 (by decide) ?_
  refine E_astore_n (l2 := [.ref 0, .int 0, .ref 10]) dX6_restore_28 rfl (by decide) rfl ?_
  refine E_aload_n dX6_restore_29 rfl ?_
  refine E_get dX6_restore_30 fX6_277 (by decide) rfl rfl ?_
  refine E_if_ne (tgt := 39) dX6_restore_33 (by decide) (fun c => (b2i_x0 rfl c).elim) (fun _ => ?_)
  refine E_bipush (v := (-3)) dX6_restore_36 (by decide) ?_
  exact E_iretf dX6_restore_38 rfl rfl rfl rfl

set_option maxHeartbeats 4000000 in
set_option maxRecDepth 20000 in
theorem t_img_1 (d : Nat) (rk : Nat) (s i : CS) (sn sc a b : Nat → Int32) (q p : Nat) (k : Bool) (hA : Agr i s) (ha : ∀ j, 8 ≤ j → a j = sn j) (hb : ∀ j, 8 ≤ j → b j = sc j) : FC YX6_image (d + 1) [.ref 0, .int 1, .null] [(0, .inr (6, [.ref 1, .ref 5, .ref 7, .ref 10, .ref 18, .ref 26, .ref 31, .ref 35, .ref 37, .int (nI rk)])), (1, .inr (0, [.ref 2, .ref 3, .ref 4, .int (skn s), .int (sdr s), .int (swa s), .int (sbu s), .int (sni s)])), (2, .inl (false, 6, sce s)), (3, .inl (false, 6, she s)), (4, .inl (false, 6, stu s)), (7, .inr (4, [.ref 8, .ref 9, .int (nI q)])), (8, .inl (false, 8, sn)), (9, .inl (false, 8, sc)), (18, .inr (2, [.ref 19, .ref 23, .int (b2i k)])), (19, .inr (0, [.ref 20, .ref 21, .ref 22, .int (skn i), .int (sdr i), .int (swa i), .int (sbu i), .int (sni i)])), (20, .inl (false, 6, sce i)), (21, .inl (false, 6, she i)), (22, .inl (false, 6, stu i)), (23, .inr (4, [.ref 24, .ref 25, .int (nI p)])), (24, .inl (false, 8, a)), (25, .inl (false, 8, b))] (some (.int 1)) [(0, .inr (6, [.ref 1, .ref 5, .ref 7, .ref 10, .ref 18, .ref 26, .ref 31, .ref 35, .ref 37, .int (nI rk)])), (1, .inr (0, [.ref 2, .ref 3, .ref 4, .int (skn s), .int (sdr s), .int (swa s), .int (sbu s), .int (sni s)])), (2, .inl (false, 6, sce s)), (3, .inl (false, 6, she s)), (4, .inl (false, 6, stu s)), (7, .inr (4, [.ref 8, .ref 9, .int (nI q)])), (8, .inl (false, 8, sn)), (9, .inl (false, 8, sc)), (18, .inr (2, [.ref 19, .ref 23, .int (b2i true)])), (19, .inr (0, [.ref 20, .ref 21, .ref 22, .int (skn s), .int (sdr s), .int (swa s), .int (sbu s), .int (sni s)])), (20, .inl (false, 6, sce s)), (21, .inl (false, 6, she s)), (22, .inl (false, 6, stu s)), (23, .inr (4, [.ref 24, .ref 25, .int (nI q)])), (24, .inl (false, 8, sn)), (25, .inl (false, 8, sc))] := by
  intro hp
  refine E_iload_n dX6_image_0 rfl ?_
  refine E_i2l dX6_image_1 ?_
  refine E_lconst (v := 0) dX6_image_2 (by decide) ?_
  refine E_lconst (v := 1) dX6_image_3 (by decide) ?_
  refine E_callS (As := [.long (Int32.toInt64 1), .long 0, .long 1]) (l' := [.long (Int32.toInt64 1), .null, .long 0, .null, .long 1, .null]) (st := []) dX6_image_4 kX6_73 sX6_isIn MX6_isIn rfl rfl (Nat.le_of_ble_eq_true rfl) (FC.use (c_isIn d _ _ _) rfl (L2 := [(0, .inr (6, [.ref 1, .ref 5, .ref 7, .ref 10, .ref 18, .ref 26, .ref 31, .ref 35, .ref 37, .int (nI rk)])), (1, .inr (0, [.ref 2, .ref 3, .ref 4, .int (skn s), .int (sdr s), .int (swa s), .int (sbu s), .int (sni s)])), (2, .inl (false, 6, sce s)), (3, .inl (false, 6, she s)), (4, .inl (false, 6, stu s)), (7, .inr (4, [.ref 8, .ref 9, .int (nI q)])), (8, .inl (false, 8, sn)), (9, .inl (false, 8, sc)), (18, .inr (2, [.ref 19, .ref 23, .int (b2i k)])), (19, .inr (0, [.ref 20, .ref 21, .ref 22, .int (skn i), .int (sdr i), .int (swa i), .int (sbu i), .int (sni i)])), (20, .inl (false, 6, sce i)), (21, .inl (false, 6, she i)), (22, .inl (false, 6, stu i)), (23, .inr (4, [.ref 24, .ref 25, .int (nI p)])), (24, .inl (false, 8, a)), (25, .inl (false, 8, b))]) rfl) (Nat.le_of_ble_eq_true rfl) (fun _ _ hq9 => E_fgo ?_ hq9)
  show E _ _ 7 [.ref 0, .int 1, .null] [.int (b2i (inL (Int32.toInt64 1) 0 1))] (hov hp [(0, .inr (6, [.ref 1, .ref 5, .ref 7, .ref 10, .ref 18, .ref 26, .ref 31, .ref 35, .ref 37, .int (nI rk)])), (1, .inr (0, [.ref 2, .ref 3, .ref 4, .int (skn s), .int (sdr s), .int (swa s), .int (sbu s), .int (sni s)])), (2, .inl (false, 6, sce s)), (3, .inl (false, 6, she s)), (4, .inl (false, 6, stu s)), (7, .inr (4, [.ref 8, .ref 9, .int (nI q)])), (8, .inl (false, 8, sn)), (9, .inl (false, 8, sc)), (18, .inr (2, [.ref 19, .ref 23, .int (b2i k)])), (19, .inr (0, [.ref 20, .ref 21, .ref 22, .int (skn i), .int (sdr i), .int (swa i), .int (sbu i), .int (sni i)])), (20, .inl (false, 6, sce i)), (21, .inl (false, 6, she i)), (22, .inl (false, 6, stu i)), (23, .inr (4, [.ref 24, .ref 25, .int (nI p)])), (24, .inl (false, 8, a)), (25, .inl (false, 8, b))]) _
  refine E_if_ne (tgt := 13) dX6_image_7 (by decide) (fun _ => ?_) (fun c => (b2i_x1 (by decide) c).elim)
  refine E_iload_n dX6_image_13 rfl ?_
  refine E_if_ne (tgt := 24) dX6_image_14 (by decide) (fun _ => ?_) (fun c => by first | exact absurd c (by decide) | exact absurd (by decide) c)
  refine E_aload_n dX6_image_24 rfl ?_
  refine E_get dX6_image_25 fX6_37 (by decide) rfl rfl ?_
  refine E_astore_n (l2 := [.ref 0, .int 1, .ref 18]) dX6_image_28 rfl (by decide) rfl ?_
  refine E_aload_n dX6_image_29 rfl ?_
  refine E_get dX6_image_30 fX6_270 (by decide) rfl rfl ?_
  refine E_aload_n dX6_image_33 rfl ?_
  refine E_get dX6_image_34 fX6_12 (by decide) rfl rfl ?_
  refine E_callV (As := [.ref 1]) (l' := [.ref 19, .ref 1, .null]) (st := []) dX6_image_37 kX6_131 iX0_copyFrom vX0_copyFrom (by decide) rfl rfl MX0_copyFrom rfl rfl (Nat.le_of_ble_eq_true rfl) (FC.use (c_copy_19_1 d i s hA) rfl (L2 := [(0, .inr (6, [.ref 1, .ref 5, .ref 7, .ref 10, .ref 18, .ref 26, .ref 31, .ref 35, .ref 37, .int (nI rk)])), (1, .inr (0, [.ref 2, .ref 3, .ref 4, .int (skn s), .int (sdr s), .int (swa s), .int (sbu s), .int (sni s)])), (2, .inl (false, 6, sce s)), (3, .inl (false, 6, she s)), (4, .inl (false, 6, stu s)), (7, .inr (4, [.ref 8, .ref 9, .int (nI q)])), (8, .inl (false, 8, sn)), (9, .inl (false, 8, sc)), (18, .inr (2, [.ref 19, .ref 23, .int (b2i k)])), (19, .inr (0, [.ref 20, .ref 21, .ref 22, .int (skn s), .int (sdr s), .int (swa s), .int (sbu s), .int (sni s)])), (20, .inl (false, 6, sce s)), (21, .inl (false, 6, she s)), (22, .inl (false, 6, stu s)), (23, .inr (4, [.ref 24, .ref 25, .int (nI p)])), (24, .inl (false, 8, a)), (25, .inl (false, 8, b))]) rfl) (Nat.le_of_ble_eq_true rfl) (fun _ _ hq9 => E_fgo ?_ hq9)
  show E _ _ 40 [.ref 0, .int 1, .ref 18] [] (hov hp [(0, .inr (6, [.ref 1, .ref 5, .ref 7, .ref 10, .ref 18, .ref 26, .ref 31, .ref 35, .ref 37, .int (nI rk)])), (1, .inr (0, [.ref 2, .ref 3, .ref 4, .int (skn s), .int (sdr s), .int (swa s), .int (sbu s), .int (sni s)])), (2, .inl (false, 6, sce s)), (3, .inl (false, 6, she s)), (4, .inl (false, 6, stu s)), (7, .inr (4, [.ref 8, .ref 9, .int (nI q)])), (8, .inl (false, 8, sn)), (9, .inl (false, 8, sc)), (18, .inr (2, [.ref 19, .ref 23, .int (b2i k)])), (19, .inr (0, [.ref 20, .ref 21, .ref 22, .int (skn s), .int (sdr s), .int (swa s), .int (sbu s), .int (sni s)])), (20, .inl (false, 6, sce s)), (21, .inl (false, 6, she s)), (22, .inl (false, 6, stu s)), (23, .inr (4, [.ref 24, .ref 25, .int (nI p)])), (24, .inl (false, 8, a)), (25, .inl (false, 8, b))]) _
  refine E_aload_n dX6_image_40 rfl ?_
  refine E_get dX6_image_41 fX6_273 (by decide) rfl rfl ?_
  refine E_aload_n dX6_image_44 rfl ?_
  refine E_get dX6_image_45 fX6_26 (by decide) rfl rfl ?_
  refine E_callV (As := [.ref 7]) (l' := [.ref 23, .ref 7, .null]) (st := []) dX6_image_48 kX6_274 iX4_copyFrom vX4_copyFrom (by decide) rfl rfl MX4_copyFrom rfl rfl (Nat.le_of_ble_eq_true rfl) (FC.use (c_sic_23_7 d a b sn sc p q ha hb) rfl (L2 := [(0, .inr (6, [.ref 1, .ref 5, .ref 7, .ref 10, .ref 18, .ref 26, .ref 31, .ref 35, .ref 37, .int (nI rk)])), (1, .inr (0, [.ref 2, .ref 3, .ref 4, .int (skn s), .int (sdr s), .int (swa s), .int (sbu s), .int (sni s)])), (2, .inl (false, 6, sce s)), (3, .inl (false, 6, she s)), (4, .inl (false, 6, stu s)), (7, .inr (4, [.ref 8, .ref 9, .int (nI q)])), (8, .inl (false, 8, sn)), (9, .inl (false, 8, sc)), (18, .inr (2, [.ref 19, .ref 23, .int (b2i k)])), (19, .inr (0, [.ref 20, .ref 21, .ref 22, .int (skn s), .int (sdr s), .int (swa s), .int (sbu s), .int (sni s)])), (20, .inl (false, 6, sce s)), (21, .inl (false, 6, she s)), (22, .inl (false, 6, stu s)), (23, .inr (4, [.ref 24, .ref 25, .int (nI q)])), (24, .inl (false, 8, sn)), (25, .inl (false, 8, sc))]) rfl) (Nat.le_of_ble_eq_true rfl) (fun _ _ hq9 => E_fgo ?_ hq9)
  show E _ _ 51 [.ref 0, .int 1, .ref 18] [] (hov hp [(0, .inr (6, [.ref 1, .ref 5, .ref 7, .ref 10, .ref 18, .ref 26, .ref 31, .ref 35, .ref 37, .int (nI rk)])), (1, .inr (0, [.ref 2, .ref 3, .ref 4, .int (skn s), .int (sdr s), .int (swa s), .int (sbu s), .int (sni s)])), (2, .inl (false, 6, sce s)), (3, .inl (false, 6, she s)), (4, .inl (false, 6, stu s)), (7, .inr (4, [.ref 8, .ref 9, .int (nI q)])), (8, .inl (false, 8, sn)), (9, .inl (false, 8, sc)), (18, .inr (2, [.ref 19, .ref 23, .int (b2i k)])), (19, .inr (0, [.ref 20, .ref 21, .ref 22, .int (skn s), .int (sdr s), .int (swa s), .int (sbu s), .int (sni s)])), (20, .inl (false, 6, sce s)), (21, .inl (false, 6, she s)), (22, .inl (false, 6, stu s)), (23, .inr (4, [.ref 24, .ref 25, .int (nI q)])), (24, .inl (false, 8, sn)), (25, .inl (false, 8, sc))]) _
  refine E_aload_n dX6_image_51 rfl ?_
  refine E_iconst (v := 1) dX6_image_52 (by decide) ?_
  refine E_eqi (y := b2i true) rfl ?_
  refine E_putz (fs2 := [.ref 19, .ref 23, .int (b2i true)]) (L2 := [(0, .inr (6, [.ref 1, .ref 5, .ref 7, .ref 10, .ref 18, .ref 26, .ref 31, .ref 35, .ref 37, .int (nI rk)])), (1, .inr (0, [.ref 2, .ref 3, .ref 4, .int (skn s), .int (sdr s), .int (swa s), .int (sbu s), .int (sni s)])), (2, .inl (false, 6, sce s)), (3, .inl (false, 6, she s)), (4, .inl (false, 6, stu s)), (7, .inr (4, [.ref 8, .ref 9, .int (nI q)])), (8, .inl (false, 8, sn)), (9, .inl (false, 8, sc)), (18, .inr (2, [.ref 19, .ref 23, .int (b2i true)])), (19, .inr (0, [.ref 20, .ref 21, .ref 22, .int (skn s), .int (sdr s), .int (swa s), .int (sbu s), .int (sni s)])), (20, .inl (false, 6, sce s)), (21, .inl (false, 6, she s)), (22, .inl (false, 6, stu s)), (23, .inr (4, [.ref 24, .ref 25, .int (nI q)])), (24, .inl (false, 8, sn)), (25, .inl (false, 8, sc))]) dX6_image_53 fX6_277 fpX2_2 (by decide) rfl (Nat.le_of_ble_eq_true rfl) rfl rfl ?_
  refine E_iconst (v := 1) dX6_image_56 (by decide) ?_
  exact E_iretf dX6_image_57 rfl rfl rfl rfl

set_option maxHeartbeats 4000000 in
set_option maxRecDepth 20000 in
theorem t_res_1 (d : Nat) (rk : Nat) (s i : CS) (sn sc a b : Nat → Int32) (q p : Nat) (hA : Agr s i) (ha : ∀ j, 8 ≤ j → sn j = a j) (hb : ∀ j, 8 ≤ j → sc j = b j) : FC YX6_restore (d + 1) [.ref 0, .int 1, .null] [(0, .inr (6, [.ref 1, .ref 5, .ref 7, .ref 10, .ref 18, .ref 26, .ref 31, .ref 35, .ref 37, .int (nI rk)])), (1, .inr (0, [.ref 2, .ref 3, .ref 4, .int (skn s), .int (sdr s), .int (swa s), .int (sbu s), .int (sni s)])), (2, .inl (false, 6, sce s)), (3, .inl (false, 6, she s)), (4, .inl (false, 6, stu s)), (7, .inr (4, [.ref 8, .ref 9, .int (nI q)])), (8, .inl (false, 8, sn)), (9, .inl (false, 8, sc)), (18, .inr (2, [.ref 19, .ref 23, .int (b2i true)])), (19, .inr (0, [.ref 20, .ref 21, .ref 22, .int (skn i), .int (sdr i), .int (swa i), .int (sbu i), .int (sni i)])), (20, .inl (false, 6, sce i)), (21, .inl (false, 6, she i)), (22, .inl (false, 6, stu i)), (23, .inr (4, [.ref 24, .ref 25, .int (nI p)])), (24, .inl (false, 8, a)), (25, .inl (false, 8, b))] (some (.int 1)) [(0, .inr (6, [.ref 1, .ref 5, .ref 7, .ref 10, .ref 18, .ref 26, .ref 31, .ref 35, .ref 37, .int (nI rk)])), (1, .inr (0, [.ref 2, .ref 3, .ref 4, .int (skn i), .int (sdr i), .int (swa i), .int (sbu i), .int (sni i)])), (2, .inl (false, 6, sce i)), (3, .inl (false, 6, she i)), (4, .inl (false, 6, stu i)), (7, .inr (4, [.ref 8, .ref 9, .int (nI p)])), (8, .inl (false, 8, a)), (9, .inl (false, 8, b)), (18, .inr (2, [.ref 19, .ref 23, .int (b2i true)])), (19, .inr (0, [.ref 20, .ref 21, .ref 22, .int (skn i), .int (sdr i), .int (swa i), .int (sbu i), .int (sni i)])), (20, .inl (false, 6, sce i)), (21, .inl (false, 6, she i)), (22, .inl (false, 6, stu i)), (23, .inr (4, [.ref 24, .ref 25, .int (nI p)])), (24, .inl (false, 8, a)), (25, .inl (false, 8, b))] := by
  intro hp
  refine E_iload_n dX6_restore_0 rfl ?_
  refine E_i2l dX6_restore_1 ?_
  refine E_lconst (v := 0) dX6_restore_2 (by decide) ?_
  refine E_lconst (v := 1) dX6_restore_3 (by decide) ?_
  refine E_callS (As := [.long (Int32.toInt64 1), .long 0, .long 1]) (l' := [.long (Int32.toInt64 1), .null, .long 0, .null, .long 1, .null]) (st := []) dX6_restore_4 kX6_73 sX6_isIn MX6_isIn rfl rfl (Nat.le_of_ble_eq_true rfl) (FC.use (c_isIn d _ _ _) rfl (L2 := [(0, .inr (6, [.ref 1, .ref 5, .ref 7, .ref 10, .ref 18, .ref 26, .ref 31, .ref 35, .ref 37, .int (nI rk)])), (1, .inr (0, [.ref 2, .ref 3, .ref 4, .int (skn s), .int (sdr s), .int (swa s), .int (sbu s), .int (sni s)])), (2, .inl (false, 6, sce s)), (3, .inl (false, 6, she s)), (4, .inl (false, 6, stu s)), (7, .inr (4, [.ref 8, .ref 9, .int (nI q)])), (8, .inl (false, 8, sn)), (9, .inl (false, 8, sc)), (18, .inr (2, [.ref 19, .ref 23, .int (b2i true)])), (19, .inr (0, [.ref 20, .ref 21, .ref 22, .int (skn i), .int (sdr i), .int (swa i), .int (sbu i), .int (sni i)])), (20, .inl (false, 6, sce i)), (21, .inl (false, 6, she i)), (22, .inl (false, 6, stu i)), (23, .inr (4, [.ref 24, .ref 25, .int (nI p)])), (24, .inl (false, 8, a)), (25, .inl (false, 8, b))]) rfl) (Nat.le_of_ble_eq_true rfl) (fun _ _ hq9 => E_fgo ?_ hq9)
  show E _ _ 7 [.ref 0, .int 1, .null] [.int (b2i (inL (Int32.toInt64 1) 0 1))] (hov hp [(0, .inr (6, [.ref 1, .ref 5, .ref 7, .ref 10, .ref 18, .ref 26, .ref 31, .ref 35, .ref 37, .int (nI rk)])), (1, .inr (0, [.ref 2, .ref 3, .ref 4, .int (skn s), .int (sdr s), .int (swa s), .int (sbu s), .int (sni s)])), (2, .inl (false, 6, sce s)), (3, .inl (false, 6, she s)), (4, .inl (false, 6, stu s)), (7, .inr (4, [.ref 8, .ref 9, .int (nI q)])), (8, .inl (false, 8, sn)), (9, .inl (false, 8, sc)), (18, .inr (2, [.ref 19, .ref 23, .int (b2i true)])), (19, .inr (0, [.ref 20, .ref 21, .ref 22, .int (skn i), .int (sdr i), .int (swa i), .int (sbu i), .int (sni i)])), (20, .inl (false, 6, sce i)), (21, .inl (false, 6, she i)), (22, .inl (false, 6, stu i)), (23, .inr (4, [.ref 24, .ref 25, .int (nI p)])), (24, .inl (false, 8, a)), (25, .inl (false, 8, b))]) _
  refine E_if_ne (tgt := 13) dX6_restore_7 (by decide) (fun _ => ?_) (fun c => (b2i_x1 (by decide) c).elim)
  refine E_iload_n dX6_restore_13 rfl ?_
  refine E_if_ne (tgt := 24) dX6_restore_14 (by decide) (fun _ => ?_) (fun c => by first | exact absurd c (by decide) | exact absurd (by decide) c)
  refine E_aload_n dX6_restore_24 rfl ?_
  refine E_get dX6_restore_25 fX6_37 (by decide) rfl rfl ?_
  refine E_astore_n (l2 := [.ref 0, .int 1, .ref 18]) dX6_restore_28 rfl (by decide) rfl ?_
  refine E_aload_n dX6_restore_29 rfl ?_
  refine E_get dX6_restore_30 fX6_277 (by decide) rfl rfl ?_
  refine E_if_ne (tgt := 39) dX6_restore_33 (by decide) (fun _ => ?_) (fun c => (b2i_x1 rfl c).elim)
  refine E_aload_n dX6_restore_39 rfl ?_
  refine E_get dX6_restore_40 fX6_12 (by decide) rfl rfl ?_
  refine E_aload_n dX6_restore_43 rfl ?_
  refine E_get dX6_restore_44 fX6_270 (by decide) rfl rfl ?_
  refine E_callV (As := [.ref 19]) (l' := [.ref 1, .ref 19, .null]) (st := []) dX6_restore_47 kX6_131 iX0_copyFrom vX0_copyFrom (by decide) rfl rfl MX0_copyFrom rfl rfl (Nat.le_of_ble_eq_true rfl) (FC.use (c_copy_1_19 d s i hA) rfl (L2 := [(0, .inr (6, [.ref 1, .ref 5, .ref 7, .ref 10, .ref 18, .ref 26, .ref 31, .ref 35, .ref 37, .int (nI rk)])), (1, .inr (0, [.ref 2, .ref 3, .ref 4, .int (skn i), .int (sdr i), .int (swa i), .int (sbu i), .int (sni i)])), (2, .inl (false, 6, sce i)), (3, .inl (false, 6, she i)), (4, .inl (false, 6, stu i)), (7, .inr (4, [.ref 8, .ref 9, .int (nI q)])), (8, .inl (false, 8, sn)), (9, .inl (false, 8, sc)), (18, .inr (2, [.ref 19, .ref 23, .int (b2i true)])), (19, .inr (0, [.ref 20, .ref 21, .ref 22, .int (skn i), .int (sdr i), .int (swa i), .int (sbu i), .int (sni i)])), (20, .inl (false, 6, sce i)), (21, .inl (false, 6, she i)), (22, .inl (false, 6, stu i)), (23, .inr (4, [.ref 24, .ref 25, .int (nI p)])), (24, .inl (false, 8, a)), (25, .inl (false, 8, b))]) rfl) (Nat.le_of_ble_eq_true rfl) (fun _ _ hq9 => E_fgo ?_ hq9)
  show E _ _ 50 [.ref 0, .int 1, .ref 18] [] (hov hp [(0, .inr (6, [.ref 1, .ref 5, .ref 7, .ref 10, .ref 18, .ref 26, .ref 31, .ref 35, .ref 37, .int (nI rk)])), (1, .inr (0, [.ref 2, .ref 3, .ref 4, .int (skn i), .int (sdr i), .int (swa i), .int (sbu i), .int (sni i)])), (2, .inl (false, 6, sce i)), (3, .inl (false, 6, she i)), (4, .inl (false, 6, stu i)), (7, .inr (4, [.ref 8, .ref 9, .int (nI q)])), (8, .inl (false, 8, sn)), (9, .inl (false, 8, sc)), (18, .inr (2, [.ref 19, .ref 23, .int (b2i true)])), (19, .inr (0, [.ref 20, .ref 21, .ref 22, .int (skn i), .int (sdr i), .int (swa i), .int (sbu i), .int (sni i)])), (20, .inl (false, 6, sce i)), (21, .inl (false, 6, she i)), (22, .inl (false, 6, stu i)), (23, .inr (4, [.ref 24, .ref 25, .int (nI p)])), (24, .inl (false, 8, a)), (25, .inl (false, 8, b))]) _
  refine E_aload_n dX6_restore_50 rfl ?_
  refine E_get dX6_restore_51 fX6_26 (by decide) rfl rfl ?_
  refine E_aload_n dX6_restore_54 rfl ?_
  refine E_get dX6_restore_55 fX6_273 (by decide) rfl rfl ?_
  refine E_callV (As := [.ref 23]) (l' := [.ref 7, .ref 23, .null]) (st := []) dX6_restore_58 kX6_274 iX4_copyFrom vX4_copyFrom (by decide) rfl rfl MX4_copyFrom rfl rfl (Nat.le_of_ble_eq_true rfl) (FC.use (c_sic_7_23 d sn sc a b q p ha hb) rfl (L2 := [(0, .inr (6, [.ref 1, .ref 5, .ref 7, .ref 10, .ref 18, .ref 26, .ref 31, .ref 35, .ref 37, .int (nI rk)])), (1, .inr (0, [.ref 2, .ref 3, .ref 4, .int (skn i), .int (sdr i), .int (swa i), .int (sbu i), .int (sni i)])), (2, .inl (false, 6, sce i)), (3, .inl (false, 6, she i)), (4, .inl (false, 6, stu i)), (7, .inr (4, [.ref 8, .ref 9, .int (nI p)])), (8, .inl (false, 8, a)), (9, .inl (false, 8, b)), (18, .inr (2, [.ref 19, .ref 23, .int (b2i true)])), (19, .inr (0, [.ref 20, .ref 21, .ref 22, .int (skn i), .int (sdr i), .int (swa i), .int (sbu i), .int (sni i)])), (20, .inl (false, 6, sce i)), (21, .inl (false, 6, she i)), (22, .inl (false, 6, stu i)), (23, .inr (4, [.ref 24, .ref 25, .int (nI p)])), (24, .inl (false, 8, a)), (25, .inl (false, 8, b))]) rfl) (Nat.le_of_ble_eq_true rfl) (fun _ _ hq9 => E_fgo ?_ hq9)
  show E _ _ 61 [.ref 0, .int 1, .ref 18] [] (hov hp [(0, .inr (6, [.ref 1, .ref 5, .ref 7, .ref 10, .ref 18, .ref 26, .ref 31, .ref 35, .ref 37, .int (nI rk)])), (1, .inr (0, [.ref 2, .ref 3, .ref 4, .int (skn i), .int (sdr i), .int (swa i), .int (sbu i), .int (sni i)])), (2, .inl (false, 6, sce i)), (3, .inl (false, 6, she i)), (4, .inl (false, 6, stu i)), (7, .inr (4, [.ref 8, .ref 9, .int (nI p)])), (8, .inl (false, 8, a)), (9, .inl (false, 8, b)), (18, .inr (2, [.ref 19, .ref 23, .int (b2i true)])), (19, .inr (0, [.ref 20, .ref 21, .ref 22, .int (skn i), .int (sdr i), .int (swa i), .int (sbu i), .int (sni i)])), (20, .inl (false, 6, sce i)), (21, .inl (false, 6, she i)), (22, .inl (false, 6, stu i)), (23, .inr (4, [.ref 24, .ref 25, .int (nI p)])), (24, .inl (false, 8, a)), (25, .inl (false, 8, b))]) _
  refine E_iconst (v := 1) dX6_restore_61 (by decide) ?_
  exact E_iretf dX6_restore_62 rfl rfl rfl rfl

set_option maxHeartbeats 4000000 in
set_option maxRecDepth 20000 in
theorem t_res_st_1 (d : Nat) (rk : Nat) : FC YX6_restore (d + 1) [.ref 0, .int 1, .null] [(0, .inr (6, [.ref 1, .ref 5, .ref 7, .ref 10, .ref 18, .ref 26, .ref 31, .ref 35, .ref 37, .int (nI rk)])), (18, .inr (2, [.ref 19, .ref 23, .int (b2i false)]))] (some (.int (-3))) [(0, .inr (6, [.ref 1, .ref 5, .ref 7, .ref 10, .ref 18, .ref 26, .ref 31, .ref 35, .ref 37, .int (nI rk)])), (18, .inr (2, [.ref 19, .ref 23, .int (b2i false)]))] := by
  intro hp
  refine E_iload_n dX6_restore_0 rfl ?_
  refine E_i2l dX6_restore_1 ?_
  refine E_lconst (v := 0) dX6_restore_2 (by decide) ?_
  refine E_lconst (v := 1) dX6_restore_3 (by decide) ?_
  refine E_callS (As := [.long (Int32.toInt64 1), .long 0, .long 1]) (l' := [.long (Int32.toInt64 1), .null, .long 0, .null, .long 1, .null]) (st := []) dX6_restore_4 kX6_73 sX6_isIn MX6_isIn rfl rfl (Nat.le_of_ble_eq_true rfl) (FC.use (c_isIn d _ _ _) rfl (L2 := [(0, .inr (6, [.ref 1, .ref 5, .ref 7, .ref 10, .ref 18, .ref 26, .ref 31, .ref 35, .ref 37, .int (nI rk)])), (18, .inr (2, [.ref 19, .ref 23, .int (b2i false)]))]) rfl) (Nat.le_of_ble_eq_true rfl) (fun _ _ hq9 => E_fgo ?_ hq9)
  show E _ _ 7 [.ref 0, .int 1, .null] [.int (b2i (inL (Int32.toInt64 1) 0 1))] (hov hp [(0, .inr (6, [.ref 1, .ref 5, .ref 7, .ref 10, .ref 18, .ref 26, .ref 31, .ref 35, .ref 37, .int (nI rk)])), (18, .inr (2, [.ref 19, .ref 23, .int (b2i false)]))]) _
  refine E_if_ne (tgt := 13) dX6_restore_7 (by decide) (fun _ => ?_) (fun c => (b2i_x1 (by decide) c).elim)
  refine E_iload_n dX6_restore_13 rfl ?_
  refine E_if_ne (tgt := 24) dX6_restore_14 (by decide) (fun _ => ?_) (fun c => by first | exact absurd c (by decide) | exact absurd (by decide) c)
  refine E_aload_n dX6_restore_24 rfl ?_
  refine E_get dX6_restore_25 fX6_37 (by decide) rfl rfl ?_
  refine E_astore_n (l2 := [.ref 0, .int 1, .ref 18]) dX6_restore_28 rfl (by decide) rfl ?_
  refine E_aload_n dX6_restore_29 rfl ?_
  refine E_get dX6_restore_30 fX6_277 (by decide) rfl rfl ?_
  refine E_if_ne (tgt := 39) dX6_restore_33 (by decide) (fun c => (b2i_x0 rfl c).elim) (fun _ => ?_)
  refine E_bipush (v := (-3)) dX6_restore_36 (by decide) ?_
  exact E_iretf dX6_restore_38 rfl rfl rfl rfl

set_option maxHeartbeats 4000000 in
set_option maxRecDepth 20000 in
theorem t_told_0 (d : Nat) (rk : Nat) (f sn sc : Nat → Int32) (n q : Nat) (s : CS)  : FC YX6_told d [.ref 0, .int 0] [(0, .inr (6, [.ref 1, .ref 5, .ref 7, .ref 10, .ref 18, .ref 26, .ref 31, .ref 35, .ref 37, .int (nI rk)])), (1, .inr (0, [.ref 2, .ref 3, .ref 4, .int (skn s), .int (sdr s), .int (swa s), .int (sbu s), .int (sni s)])), (2, .inl (false, 6, sce s)), (3, .inl (false, 6, she s)), (4, .inl (false, 6, stu s)), (5, .inr (3, [.ref 6, .int (nI n)])), (6, .inl (false, 60, f)), (7, .inr (4, [.ref 8, .ref 9, .int (nI q)])), (8, .inl (false, 8, sn)), (9, .inl (false, 8, sc))] (some (.int (nI n))) [(0, .inr (6, [.ref 1, .ref 5, .ref 7, .ref 10, .ref 18, .ref 26, .ref 31, .ref 35, .ref 37, .int (nI rk)])), (1, .inr (0, [.ref 2, .ref 3, .ref 4, .int (skn s), .int (sdr s), .int (swa s), .int (sbu s), .int (sni s)])), (2, .inl (false, 6, sce s)), (3, .inl (false, 6, she s)), (4, .inl (false, 6, stu s)), (5, .inr (3, [.ref 6, .int (nI n)])), (6, .inl (false, 60, f)), (7, .inr (4, [.ref 8, .ref 9, .int (nI q)])), (8, .inl (false, 8, sn)), (9, .inl (false, 8, sc))] := by
  intro hp
  refine E_iload_n dX6_told_0 rfl ?_
  refine E_bipush (v := 10) dX6_told_1 (by decide) ?_
  refine E_icmp_lt (tgt := 19) dX6_told_3 (by decide) (fun _ => ?_) (fun c => by first | exact absurd c (by decide) | exact absurd (by decide) c)
  refine E_iload_n dX6_told_19 rfl ?_
  refine E_tableIn (off := 44) (tgt := 64) dX6_told_20 (by decide) (by decide) (by decide) (by decide) ?_
  refine E_aload_n dX6_told_64 rfl ?_
  refine E_get dX6_told_65 fX6_19 (by decide) rfl rfl ?_
  refine E_get dX6_told_68 fX6_111 (by decide) rfl rfl ?_
  exact E_iretf dX6_told_71 rfl rfl rfl rfl

set_option maxHeartbeats 4000000 in
set_option maxRecDepth 20000 in
theorem t_told_1 (d : Nat) (rk : Nat) (f sn sc : Nat → Int32) (n q : Nat) (s : CS)  : FC YX6_told d [.ref 0, .int 1] [(0, .inr (6, [.ref 1, .ref 5, .ref 7, .ref 10, .ref 18, .ref 26, .ref 31, .ref 35, .ref 37, .int (nI rk)])), (1, .inr (0, [.ref 2, .ref 3, .ref 4, .int (skn s), .int (sdr s), .int (swa s), .int (sbu s), .int (sni s)])), (2, .inl (false, 6, sce s)), (3, .inl (false, 6, she s)), (4, .inl (false, 6, stu s)), (5, .inr (3, [.ref 6, .int (nI n)])), (6, .inl (false, 60, f)), (7, .inr (4, [.ref 8, .ref 9, .int (nI q)])), (8, .inl (false, 8, sn)), (9, .inl (false, 8, sc))] (some (.int (sbu s))) [(0, .inr (6, [.ref 1, .ref 5, .ref 7, .ref 10, .ref 18, .ref 26, .ref 31, .ref 35, .ref 37, .int (nI rk)])), (1, .inr (0, [.ref 2, .ref 3, .ref 4, .int (skn s), .int (sdr s), .int (swa s), .int (sbu s), .int (sni s)])), (2, .inl (false, 6, sce s)), (3, .inl (false, 6, she s)), (4, .inl (false, 6, stu s)), (5, .inr (3, [.ref 6, .int (nI n)])), (6, .inl (false, 60, f)), (7, .inr (4, [.ref 8, .ref 9, .int (nI q)])), (8, .inl (false, 8, sn)), (9, .inl (false, 8, sc))] := by
  intro hp
  refine E_iload_n dX6_told_0 rfl ?_
  refine E_bipush (v := 10) dX6_told_1 (by decide) ?_
  refine E_icmp_lt (tgt := 19) dX6_told_3 (by decide) (fun _ => ?_) (fun c => by first | exact absurd c (by decide) | exact absurd (by decide) c)
  refine E_iload_n dX6_told_19 rfl ?_
  refine E_tableIn (off := 52) (tgt := 72) dX6_told_20 (by decide) (by decide) (by decide) (by decide) ?_
  refine E_aload_n dX6_told_72 rfl ?_
  refine E_get dX6_told_73 fX6_12 (by decide) rfl rfl ?_
  refine E_get dX6_told_76 fX6_101 (by decide) rfl rfl ?_
  exact E_iretf dX6_told_79 rfl rfl rfl rfl

set_option maxHeartbeats 4000000 in
set_option maxRecDepth 20000 in
theorem t_told_2 (d : Nat) (rk : Nat) (f sn sc : Nat → Int32) (n q : Nat) (s : CS)  : FC YX6_told d [.ref 0, .int 2] [(0, .inr (6, [.ref 1, .ref 5, .ref 7, .ref 10, .ref 18, .ref 26, .ref 31, .ref 35, .ref 37, .int (nI rk)])), (1, .inr (0, [.ref 2, .ref 3, .ref 4, .int (skn s), .int (sdr s), .int (swa s), .int (sbu s), .int (sni s)])), (2, .inl (false, 6, sce s)), (3, .inl (false, 6, she s)), (4, .inl (false, 6, stu s)), (5, .inr (3, [.ref 6, .int (nI n)])), (6, .inl (false, 60, f)), (7, .inr (4, [.ref 8, .ref 9, .int (nI q)])), (8, .inl (false, 8, sn)), (9, .inl (false, 8, sc))] (some (.int (skn s))) [(0, .inr (6, [.ref 1, .ref 5, .ref 7, .ref 10, .ref 18, .ref 26, .ref 31, .ref 35, .ref 37, .int (nI rk)])), (1, .inr (0, [.ref 2, .ref 3, .ref 4, .int (skn s), .int (sdr s), .int (swa s), .int (sbu s), .int (sni s)])), (2, .inl (false, 6, sce s)), (3, .inl (false, 6, she s)), (4, .inl (false, 6, stu s)), (5, .inr (3, [.ref 6, .int (nI n)])), (6, .inl (false, 60, f)), (7, .inr (4, [.ref 8, .ref 9, .int (nI q)])), (8, .inl (false, 8, sn)), (9, .inl (false, 8, sc))] := by
  intro hp
  refine E_iload_n dX6_told_0 rfl ?_
  refine E_bipush (v := 10) dX6_told_1 (by decide) ?_
  refine E_icmp_lt (tgt := 19) dX6_told_3 (by decide) (fun _ => ?_) (fun c => by first | exact absurd c (by decide) | exact absurd (by decide) c)
  refine E_iload_n dX6_told_19 rfl ?_
  refine E_tableIn (off := 60) (tgt := 80) dX6_told_20 (by decide) (by decide) (by decide) (by decide) ?_
  refine E_aload_n dX6_told_80 rfl ?_
  refine E_get dX6_told_81 fX6_12 (by decide) rfl rfl ?_
  refine E_get dX6_told_84 fX6_146 (by decide) rfl rfl ?_
  exact E_iretf dX6_told_87 rfl rfl rfl rfl

set_option maxHeartbeats 4000000 in
set_option maxRecDepth 20000 in
theorem t_told_3 (d : Nat) (rk : Nat) (f sn sc : Nat → Int32) (n q : Nat) (s : CS)  : FC YX6_told d [.ref 0, .int 3] [(0, .inr (6, [.ref 1, .ref 5, .ref 7, .ref 10, .ref 18, .ref 26, .ref 31, .ref 35, .ref 37, .int (nI rk)])), (1, .inr (0, [.ref 2, .ref 3, .ref 4, .int (skn s), .int (sdr s), .int (swa s), .int (sbu s), .int (sni s)])), (2, .inl (false, 6, sce s)), (3, .inl (false, 6, she s)), (4, .inl (false, 6, stu s)), (5, .inr (3, [.ref 6, .int (nI n)])), (6, .inl (false, 60, f)), (7, .inr (4, [.ref 8, .ref 9, .int (nI q)])), (8, .inl (false, 8, sn)), (9, .inl (false, 8, sc))] (some (.int (sdr s))) [(0, .inr (6, [.ref 1, .ref 5, .ref 7, .ref 10, .ref 18, .ref 26, .ref 31, .ref 35, .ref 37, .int (nI rk)])), (1, .inr (0, [.ref 2, .ref 3, .ref 4, .int (skn s), .int (sdr s), .int (swa s), .int (sbu s), .int (sni s)])), (2, .inl (false, 6, sce s)), (3, .inl (false, 6, she s)), (4, .inl (false, 6, stu s)), (5, .inr (3, [.ref 6, .int (nI n)])), (6, .inl (false, 60, f)), (7, .inr (4, [.ref 8, .ref 9, .int (nI q)])), (8, .inl (false, 8, sn)), (9, .inl (false, 8, sc))] := by
  intro hp
  refine E_iload_n dX6_told_0 rfl ?_
  refine E_bipush (v := 10) dX6_told_1 (by decide) ?_
  refine E_icmp_lt (tgt := 19) dX6_told_3 (by decide) (fun _ => ?_) (fun c => by first | exact absurd c (by decide) | exact absurd (by decide) c)
  refine E_iload_n dX6_told_19 rfl ?_
  refine E_tableIn (off := 68) (tgt := 88) dX6_told_20 (by decide) (by decide) (by decide) (by decide) ?_
  refine E_aload_n dX6_told_88 rfl ?_
  refine E_get dX6_told_89 fX6_12 (by decide) rfl rfl ?_
  refine E_get dX6_told_92 fX6_149 (by decide) rfl rfl ?_
  exact E_iretf dX6_told_95 rfl rfl rfl rfl

set_option maxHeartbeats 4000000 in
set_option maxRecDepth 20000 in
theorem t_told_4 (d : Nat) (rk : Nat) (f sn sc : Nat → Int32) (n q : Nat) (s : CS)  : FC YX6_told d [.ref 0, .int 4] [(0, .inr (6, [.ref 1, .ref 5, .ref 7, .ref 10, .ref 18, .ref 26, .ref 31, .ref 35, .ref 37, .int (nI rk)])), (1, .inr (0, [.ref 2, .ref 3, .ref 4, .int (skn s), .int (sdr s), .int (swa s), .int (sbu s), .int (sni s)])), (2, .inl (false, 6, sce s)), (3, .inl (false, 6, she s)), (4, .inl (false, 6, stu s)), (5, .inr (3, [.ref 6, .int (nI n)])), (6, .inl (false, 60, f)), (7, .inr (4, [.ref 8, .ref 9, .int (nI q)])), (8, .inl (false, 8, sn)), (9, .inl (false, 8, sc))] (some (.int (swa s))) [(0, .inr (6, [.ref 1, .ref 5, .ref 7, .ref 10, .ref 18, .ref 26, .ref 31, .ref 35, .ref 37, .int (nI rk)])), (1, .inr (0, [.ref 2, .ref 3, .ref 4, .int (skn s), .int (sdr s), .int (swa s), .int (sbu s), .int (sni s)])), (2, .inl (false, 6, sce s)), (3, .inl (false, 6, she s)), (4, .inl (false, 6, stu s)), (5, .inr (3, [.ref 6, .int (nI n)])), (6, .inl (false, 60, f)), (7, .inr (4, [.ref 8, .ref 9, .int (nI q)])), (8, .inl (false, 8, sn)), (9, .inl (false, 8, sc))] := by
  intro hp
  refine E_iload_n dX6_told_0 rfl ?_
  refine E_bipush (v := 10) dX6_told_1 (by decide) ?_
  refine E_icmp_lt (tgt := 19) dX6_told_3 (by decide) (fun _ => ?_) (fun c => by first | exact absurd c (by decide) | exact absurd (by decide) c)
  refine E_iload_n dX6_told_19 rfl ?_
  refine E_tableIn (off := 76) (tgt := 96) dX6_told_20 (by decide) (by decide) (by decide) (by decide) ?_
  refine E_aload_n dX6_told_96 rfl ?_
  refine E_get dX6_told_97 fX6_12 (by decide) rfl rfl ?_
  refine E_get dX6_told_100 fX6_92 (by decide) rfl rfl ?_
  exact E_iretf dX6_told_103 rfl rfl rfl rfl

set_option maxHeartbeats 4000000 in
set_option maxRecDepth 20000 in
theorem t_told_5 (d : Nat) (rk : Nat) (f sn sc : Nat → Int32) (n q : Nat) (s : CS)  : FC YX6_told d [.ref 0, .int 5] [(0, .inr (6, [.ref 1, .ref 5, .ref 7, .ref 10, .ref 18, .ref 26, .ref 31, .ref 35, .ref 37, .int (nI rk)])), (1, .inr (0, [.ref 2, .ref 3, .ref 4, .int (skn s), .int (sdr s), .int (swa s), .int (sbu s), .int (sni s)])), (2, .inl (false, 6, sce s)), (3, .inl (false, 6, she s)), (4, .inl (false, 6, stu s)), (5, .inr (3, [.ref 6, .int (nI n)])), (6, .inl (false, 60, f)), (7, .inr (4, [.ref 8, .ref 9, .int (nI q)])), (8, .inl (false, 8, sn)), (9, .inl (false, 8, sc))] (some (.int (sni s))) [(0, .inr (6, [.ref 1, .ref 5, .ref 7, .ref 10, .ref 18, .ref 26, .ref 31, .ref 35, .ref 37, .int (nI rk)])), (1, .inr (0, [.ref 2, .ref 3, .ref 4, .int (skn s), .int (sdr s), .int (swa s), .int (sbu s), .int (sni s)])), (2, .inl (false, 6, sce s)), (3, .inl (false, 6, she s)), (4, .inl (false, 6, stu s)), (5, .inr (3, [.ref 6, .int (nI n)])), (6, .inl (false, 60, f)), (7, .inr (4, [.ref 8, .ref 9, .int (nI q)])), (8, .inl (false, 8, sn)), (9, .inl (false, 8, sc))] := by
  intro hp
  refine E_iload_n dX6_told_0 rfl ?_
  refine E_bipush (v := 10) dX6_told_1 (by decide) ?_
  refine E_icmp_lt (tgt := 19) dX6_told_3 (by decide) (fun _ => ?_) (fun c => by first | exact absurd c (by decide) | exact absurd (by decide) c)
  refine E_iload_n dX6_told_19 rfl ?_
  refine E_tableIn (off := 84) (tgt := 104) dX6_told_20 (by decide) (by decide) (by decide) (by decide) ?_
  refine E_aload_n dX6_told_104 rfl ?_
  refine E_get dX6_told_105 fX6_12 (by decide) rfl rfl ?_
  refine E_get dX6_told_108 fX6_155 (by decide) rfl rfl ?_
  exact E_iretf dX6_told_111 rfl rfl rfl rfl

set_option maxHeartbeats 4000000 in
set_option maxRecDepth 20000 in
theorem t_told_6 (d : Nat) (rk : Nat) (f sn sc : Nat → Int32) (n q : Nat) (s : CS)  : FC YX6_told d [.ref 0, .int 6] [(0, .inr (6, [.ref 1, .ref 5, .ref 7, .ref 10, .ref 18, .ref 26, .ref 31, .ref 35, .ref 37, .int (nI rk)])), (1, .inr (0, [.ref 2, .ref 3, .ref 4, .int (skn s), .int (sdr s), .int (swa s), .int (sbu s), .int (sni s)])), (2, .inl (false, 6, sce s)), (3, .inl (false, 6, she s)), (4, .inl (false, 6, stu s)), (5, .inr (3, [.ref 6, .int (nI n)])), (6, .inl (false, 60, f)), (7, .inr (4, [.ref 8, .ref 9, .int (nI q)])), (8, .inl (false, 8, sn)), (9, .inl (false, 8, sc))] (some (.int (nI q))) [(0, .inr (6, [.ref 1, .ref 5, .ref 7, .ref 10, .ref 18, .ref 26, .ref 31, .ref 35, .ref 37, .int (nI rk)])), (1, .inr (0, [.ref 2, .ref 3, .ref 4, .int (skn s), .int (sdr s), .int (swa s), .int (sbu s), .int (sni s)])), (2, .inl (false, 6, sce s)), (3, .inl (false, 6, she s)), (4, .inl (false, 6, stu s)), (5, .inr (3, [.ref 6, .int (nI n)])), (6, .inl (false, 60, f)), (7, .inr (4, [.ref 8, .ref 9, .int (nI q)])), (8, .inl (false, 8, sn)), (9, .inl (false, 8, sc))] := by
  intro hp
  refine E_iload_n dX6_told_0 rfl ?_
  refine E_bipush (v := 10) dX6_told_1 (by decide) ?_
  refine E_icmp_lt (tgt := 19) dX6_told_3 (by decide) (fun _ => ?_) (fun c => by first | exact absurd c (by decide) | exact absurd (by decide) c)
  refine E_iload_n dX6_told_19 rfl ?_
  refine E_tableIn (off := 92) (tgt := 112) dX6_told_20 (by decide) (by decide) (by decide) (by decide) ?_
  refine E_aload_n dX6_told_112 rfl ?_
  refine E_get dX6_told_113 fX6_26 (by decide) rfl rfl ?_
  refine E_get dX6_told_116 fX6_206 (by decide) rfl rfl ?_
  exact E_iretf dX6_told_119 rfl rfl rfl rfl

set_option maxHeartbeats 4000000 in
set_option maxRecDepth 20000 in
theorem t_told_oA (d : Nat) (rk : Nat) (x : Int32) (h : ¬ 10 ≤ x) (hx : x.toInt < 0 ∨ 6 < x.toInt) : FC YX6_told d [.ref 0, .int x] [(0, .inr (6, [.ref 1, .ref 5, .ref 7, .ref 10, .ref 18, .ref 26, .ref 31, .ref 35, .ref 37, .int (nI rk)]))] (some (.int (-2))) [(0, .inr (6, [.ref 1, .ref 5, .ref 7, .ref 10, .ref 18, .ref 26, .ref 31, .ref 35, .ref 37, .int (nI rk)]))] := by
  intro hp
  refine E_iload_n dX6_told_0 rfl ?_
  refine E_bipush (v := 10) dX6_told_1 (by decide) ?_
  refine E_icmp_lt (tgt := 19) dX6_told_3 (by decide) (fun _ => ?_) (fun c => absurd (Int32.not_le.mp h) c)
  refine E_iload_n dX6_told_19 rfl ?_
  refine E_tableOut (tgt := 120) dX6_told_20 hx (by decide) ?_
  refine E_bipush (v := (-2)) dX6_told_120 (by decide) ?_
  exact E_iretf dX6_told_122 rfl rfl rfl rfl

set_option maxHeartbeats 4000000 in
set_option maxRecDepth 20000 in
theorem c_tofh_no (d : Nat) (rk : Nat) (x y : Int32) (h : inL (Int32.toInt64 y) 0 5 = false) : FC YX6_toldOfHeap (d + 2) [.ref 0, .int x, .int y] [(0, .inr (6, [.ref 1, .ref 5, .ref 7, .ref 10, .ref 18, .ref 26, .ref 31, .ref 35, .ref 37, .int (nI rk)]))] (some (.int (-2))) [(0, .inr (6, [.ref 1, .ref 5, .ref 7, .ref 10, .ref 18, .ref 26, .ref 31, .ref 35, .ref 37, .int (nI rk)]))] := by
  intro hp
  refine E_iload_n dX6_toldOfHeap_0 rfl ?_
  refine E_callS (As := [.int y]) (l' := [.int y]) (st := []) dX6_toldOfHeap_1 kX6_65 sX6_isHeap MX6_isHeap rfl rfl (Nat.le_of_ble_eq_true rfl) (FC.use (c_isHeap d _) rfl (L2 := [(0, .inr (6, [.ref 1, .ref 5, .ref 7, .ref 10, .ref 18, .ref 26, .ref 31, .ref 35, .ref 37, .int (nI rk)]))]) rfl) (Nat.le_of_ble_eq_true rfl) (fun _ _ hq9 => E_fgo ?_ hq9)
  show E _ _ 4 [.ref 0, .int x, .int y] [.int (b2i (inL (Int32.toInt64 y) 0 5))] (hov hp [(0, .inr (6, [.ref 1, .ref 5, .ref 7, .ref 10, .ref 18, .ref 26, .ref 31, .ref 35, .ref 37, .int (nI rk)]))]) _
  refine E_if_ne (tgt := 10) dX6_toldOfHeap_4 (by decide) (fun c => (b2i_x0 h c).elim) (fun _ => ?_)
  refine E_bipush (v := (-2)) dX6_toldOfHeap_7 (by decide) ?_
  exact E_iretf dX6_toldOfHeap_9 rfl rfl rfl rfl

set_option maxHeartbeats 4000000 in
set_option maxRecDepth 20000 in
theorem c_tofh_out (d : Nat) (rk : Nat) (x y : Int32) (h : inL (Int32.toInt64 y) 0 5 = true) (hx : x.toInt < 1 ∨ 3 < x.toInt) : FC YX6_toldOfHeap (d + 2) [.ref 0, .int x, .int y] [(0, .inr (6, [.ref 1, .ref 5, .ref 7, .ref 10, .ref 18, .ref 26, .ref 31, .ref 35, .ref 37, .int (nI rk)]))] (some (.int (-2))) [(0, .inr (6, [.ref 1, .ref 5, .ref 7, .ref 10, .ref 18, .ref 26, .ref 31, .ref 35, .ref 37, .int (nI rk)]))] := by
  intro hp
  refine E_iload_n dX6_toldOfHeap_0 rfl ?_
  refine E_callS (As := [.int y]) (l' := [.int y]) (st := []) dX6_toldOfHeap_1 kX6_65 sX6_isHeap MX6_isHeap rfl rfl (Nat.le_of_ble_eq_true rfl) (FC.use (c_isHeap d _) rfl (L2 := [(0, .inr (6, [.ref 1, .ref 5, .ref 7, .ref 10, .ref 18, .ref 26, .ref 31, .ref 35, .ref 37, .int (nI rk)]))]) rfl) (Nat.le_of_ble_eq_true rfl) (fun _ _ hq9 => E_fgo ?_ hq9)
  show E _ _ 4 [.ref 0, .int x, .int y] [.int (b2i (inL (Int32.toInt64 y) 0 5))] (hov hp [(0, .inr (6, [.ref 1, .ref 5, .ref 7, .ref 10, .ref 18, .ref 26, .ref 31, .ref 35, .ref 37, .int (nI rk)]))]) _
  refine E_if_ne (tgt := 10) dX6_toldOfHeap_4 (by decide) (fun _ => ?_) (fun c => (b2i_x1 h c).elim)
  refine E_iload_n dX6_toldOfHeap_10 rfl ?_
  refine E_tableOut (tgt := 66) dX6_toldOfHeap_11 hx (by decide) ?_
  refine E_bipush (v := (-2)) dX6_toldOfHeap_66 (by decide) ?_
  exact E_iretf dX6_toldOfHeap_68 rfl rfl rfl rfl

set_option maxHeartbeats 4000000 in
set_option maxRecDepth 20000 in
theorem c_tofh_1 (d : Nat) (rk : Nat) (s : CS) (h : Nat) (hh : h < 6) (hv : inL (Int32.toInt64 (nI h)) 0 5 = true) : FC YX6_toldOfHeap (d + 2) [.ref 0, .int 1, .int (nI h)] [(0, .inr (6, [.ref 1, .ref 5, .ref 7, .ref 10, .ref 18, .ref 26, .ref 31, .ref 35, .ref 37, .int (nI rk)])), (1, .inr (0, [.ref 2, .ref 3, .ref 4, .int (skn s), .int (sdr s), .int (swa s), .int (sbu s), .int (sni s)])), (2, .inl (false, 6, sce s)), (3, .inl (false, 6, she s)), (4, .inl (false, 6, stu s))] (some (.int (sce s h))) [(0, .inr (6, [.ref 1, .ref 5, .ref 7, .ref 10, .ref 18, .ref 26, .ref 31, .ref 35, .ref 37, .int (nI rk)])), (1, .inr (0, [.ref 2, .ref 3, .ref 4, .int (skn s), .int (sdr s), .int (swa s), .int (sbu s), .int (sni s)])), (2, .inl (false, 6, sce s)), (3, .inl (false, 6, she s)), (4, .inl (false, 6, stu s))] := by
  intro hp
  refine E_iload_n dX6_toldOfHeap_0 rfl ?_
  refine E_callS (As := [.int (nI h)]) (l' := [.int (nI h)]) (st := []) dX6_toldOfHeap_1 kX6_65 sX6_isHeap MX6_isHeap rfl rfl (Nat.le_of_ble_eq_true rfl) (FC.use (c_isHeap d _) rfl (L2 := [(0, .inr (6, [.ref 1, .ref 5, .ref 7, .ref 10, .ref 18, .ref 26, .ref 31, .ref 35, .ref 37, .int (nI rk)])), (1, .inr (0, [.ref 2, .ref 3, .ref 4, .int (skn s), .int (sdr s), .int (swa s), .int (sbu s), .int (sni s)])), (2, .inl (false, 6, sce s)), (3, .inl (false, 6, she s)), (4, .inl (false, 6, stu s))]) rfl) (Nat.le_of_ble_eq_true rfl) (fun _ _ hq9 => E_fgo ?_ hq9)
  show E _ _ 4 [.ref 0, .int 1, .int (nI h)] [.int (b2i (inL (Int32.toInt64 (nI h)) 0 5))] (hov hp [(0, .inr (6, [.ref 1, .ref 5, .ref 7, .ref 10, .ref 18, .ref 26, .ref 31, .ref 35, .ref 37, .int (nI rk)])), (1, .inr (0, [.ref 2, .ref 3, .ref 4, .int (skn s), .int (sdr s), .int (swa s), .int (sbu s), .int (sni s)])), (2, .inl (false, 6, sce s)), (3, .inl (false, 6, she s)), (4, .inl (false, 6, stu s))]) _
  refine E_if_ne (tgt := 10) dX6_toldOfHeap_4 (by decide) (fun _ => ?_) (fun c => (b2i_x1 hv c).elim)
  refine E_iload_n dX6_toldOfHeap_10 rfl ?_
  refine E_tableIn (off := 25) (tgt := 36) dX6_toldOfHeap_11 (by decide) (by decide) (by decide) (by decide) ?_
  refine E_aload_n dX6_toldOfHeap_36 rfl ?_
  refine E_get dX6_toldOfHeap_37 fX6_12 (by decide) rfl rfl ?_
  refine E_get dX6_toldOfHeap_40 fX6_83 (by decide) rfl rfl ?_
  refine E_iload_n dX6_toldOfHeap_43 rfl ?_
  refine E_ialdN (j := h) dX6_toldOfHeap_44 (by decide) rfl (by omega) (by decide) ?_
  exact E_iretf dX6_toldOfHeap_45 rfl rfl rfl rfl

set_option maxHeartbeats 4000000 in
set_option maxRecDepth 20000 in
theorem t_told_h1 (d : Nat) (rk : Nat) (s : CS) (h : Nat) (hh : h < 6) (hv : inL (Int32.toInt64 (nI h)) 0 5 = true) (hx : 10 ≤ nI (10 + h)) : FC YX6_told (d + 3) [.ref 0, .int (nI (10 + h))] [(0, .inr (6, [.ref 1, .ref 5, .ref 7, .ref 10, .ref 18, .ref 26, .ref 31, .ref 35, .ref 37, .int (nI rk)])), (1, .inr (0, [.ref 2, .ref 3, .ref 4, .int (skn s), .int (sdr s), .int (swa s), .int (sbu s), .int (sni s)])), (2, .inl (false, 6, sce s)), (3, .inl (false, 6, she s)), (4, .inl (false, 6, stu s))] (some (.int (sce s h))) [(0, .inr (6, [.ref 1, .ref 5, .ref 7, .ref 10, .ref 18, .ref 26, .ref 31, .ref 35, .ref 37, .int (nI rk)])), (1, .inr (0, [.ref 2, .ref 3, .ref 4, .int (skn s), .int (sdr s), .int (swa s), .int (sbu s), .int (sni s)])), (2, .inl (false, 6, sce s)), (3, .inl (false, 6, she s)), (4, .inl (false, 6, stu s))] := by
  intro hp
  refine E_iload_n dX6_told_0 rfl ?_
  refine E_bipush (v := 10) dX6_told_1 (by decide) ?_
  refine E_icmp_lt (tgt := 19) dX6_told_3 (by decide) (fun c => absurd c (Int32.not_lt.mpr hx)) (fun _ => ?_)
  refine E_aload_n dX6_told_6 rfl ?_
  refine E_iload_n dX6_told_7 rfl ?_
  refine E_bipush (v := 10) dX6_told_8 (by decide) ?_
  refine E_idiv dX6_told_10 (by decide) ?_
  refine E_eqi (y := 1) (by have e := pk_div (a := 10 + h) (d := 10) (by omega) (by decide) (by decide); rw [show (10 + h) / 10 = 1 by omega] at e; exact e) ?_
  refine E_iload_n dX6_told_11 rfl ?_
  refine E_bipush (v := 10) dX6_told_12 (by decide) ?_
  refine E_irem dX6_told_14 (by decide) ?_
  refine E_eqi (y := nI h) (by have e := pk_rem (a := 10 + h) (d := 10) (by omega) (by decide) (by decide); rw [show (10 + h) % 10 = h by omega] at e; exact e) ?_
  refine E_callV (As := [.int 1, .int (nI h)]) (l' := [.ref 0, .int 1, .int (nI h)]) (st := []) dX6_told_15 kX6_281 iX6_toldOfHeap vX6_toldOfHeap (by decide) rfl rfl MX6_toldOfHeap rfl rfl (Nat.le_of_ble_eq_true rfl) (FC.use (c_tofh_1 d rk s h hh hv) rfl (L2 := [(0, .inr (6, [.ref 1, .ref 5, .ref 7, .ref 10, .ref 18, .ref 26, .ref 31, .ref 35, .ref 37, .int (nI rk)])), (1, .inr (0, [.ref 2, .ref 3, .ref 4, .int (skn s), .int (sdr s), .int (swa s), .int (sbu s), .int (sni s)])), (2, .inl (false, 6, sce s)), (3, .inl (false, 6, she s)), (4, .inl (false, 6, stu s))]) rfl) (Nat.le_of_ble_eq_true rfl) (fun _ _ hq9 => E_fgo ?_ hq9)
  show E _ _ 18 [.ref 0, .int (nI (10 + h))] [.int (sce s h)] (hov hp [(0, .inr (6, [.ref 1, .ref 5, .ref 7, .ref 10, .ref 18, .ref 26, .ref 31, .ref 35, .ref 37, .int (nI rk)])), (1, .inr (0, [.ref 2, .ref 3, .ref 4, .int (skn s), .int (sdr s), .int (swa s), .int (sbu s), .int (sni s)])), (2, .inl (false, 6, sce s)), (3, .inl (false, 6, she s)), (4, .inl (false, 6, stu s))]) _
  exact E_iretf dX6_told_18 rfl rfl rfl rfl

set_option maxHeartbeats 4000000 in
set_option maxRecDepth 20000 in
theorem c_tofh_2 (d : Nat) (rk : Nat) (s : CS) (h : Nat) (hh : h < 6) (hv : inL (Int32.toInt64 (nI h)) 0 5 = true) : FC YX6_toldOfHeap (d + 2) [.ref 0, .int 2, .int (nI h)] [(0, .inr (6, [.ref 1, .ref 5, .ref 7, .ref 10, .ref 18, .ref 26, .ref 31, .ref 35, .ref 37, .int (nI rk)])), (1, .inr (0, [.ref 2, .ref 3, .ref 4, .int (skn s), .int (sdr s), .int (swa s), .int (sbu s), .int (sni s)])), (2, .inl (false, 6, sce s)), (3, .inl (false, 6, she s)), (4, .inl (false, 6, stu s))] (some (.int (she s h))) [(0, .inr (6, [.ref 1, .ref 5, .ref 7, .ref 10, .ref 18, .ref 26, .ref 31, .ref 35, .ref 37, .int (nI rk)])), (1, .inr (0, [.ref 2, .ref 3, .ref 4, .int (skn s), .int (sdr s), .int (swa s), .int (sbu s), .int (sni s)])), (2, .inl (false, 6, sce s)), (3, .inl (false, 6, she s)), (4, .inl (false, 6, stu s))] := by
  intro hp
  refine E_iload_n dX6_toldOfHeap_0 rfl ?_
  refine E_callS (As := [.int (nI h)]) (l' := [.int (nI h)]) (st := []) dX6_toldOfHeap_1 kX6_65 sX6_isHeap MX6_isHeap rfl rfl (Nat.le_of_ble_eq_true rfl) (FC.use (c_isHeap d _) rfl (L2 := [(0, .inr (6, [.ref 1, .ref 5, .ref 7, .ref 10, .ref 18, .ref 26, .ref 31, .ref 35, .ref 37, .int (nI rk)])), (1, .inr (0, [.ref 2, .ref 3, .ref 4, .int (skn s), .int (sdr s), .int (swa s), .int (sbu s), .int (sni s)])), (2, .inl (false, 6, sce s)), (3, .inl (false, 6, she s)), (4, .inl (false, 6, stu s))]) rfl) (Nat.le_of_ble_eq_true rfl) (fun _ _ hq9 => E_fgo ?_ hq9)
  show E _ _ 4 [.ref 0, .int 2, .int (nI h)] [.int (b2i (inL (Int32.toInt64 (nI h)) 0 5))] (hov hp [(0, .inr (6, [.ref 1, .ref 5, .ref 7, .ref 10, .ref 18, .ref 26, .ref 31, .ref 35, .ref 37, .int (nI rk)])), (1, .inr (0, [.ref 2, .ref 3, .ref 4, .int (skn s), .int (sdr s), .int (swa s), .int (sbu s), .int (sni s)])), (2, .inl (false, 6, sce s)), (3, .inl (false, 6, she s)), (4, .inl (false, 6, stu s))]) _
  refine E_if_ne (tgt := 10) dX6_toldOfHeap_4 (by decide) (fun _ => ?_) (fun c => (b2i_x1 hv c).elim)
  refine E_iload_n dX6_toldOfHeap_10 rfl ?_
  refine E_tableIn (off := 35) (tgt := 46) dX6_toldOfHeap_11 (by decide) (by decide) (by decide) (by decide) ?_
  refine E_aload_n dX6_toldOfHeap_46 rfl ?_
  refine E_get dX6_toldOfHeap_47 fX6_12 (by decide) rfl rfl ?_
  refine E_get dX6_toldOfHeap_50 fX6_140 (by decide) rfl rfl ?_
  refine E_iload_n dX6_toldOfHeap_53 rfl ?_
  refine E_ialdN (j := h) dX6_toldOfHeap_54 (by decide) rfl (by omega) (by decide) ?_
  exact E_iretf dX6_toldOfHeap_55 rfl rfl rfl rfl

set_option maxHeartbeats 4000000 in
set_option maxRecDepth 20000 in
theorem t_told_h2 (d : Nat) (rk : Nat) (s : CS) (h : Nat) (hh : h < 6) (hv : inL (Int32.toInt64 (nI h)) 0 5 = true) (hx : 10 ≤ nI (20 + h)) : FC YX6_told (d + 3) [.ref 0, .int (nI (20 + h))] [(0, .inr (6, [.ref 1, .ref 5, .ref 7, .ref 10, .ref 18, .ref 26, .ref 31, .ref 35, .ref 37, .int (nI rk)])), (1, .inr (0, [.ref 2, .ref 3, .ref 4, .int (skn s), .int (sdr s), .int (swa s), .int (sbu s), .int (sni s)])), (2, .inl (false, 6, sce s)), (3, .inl (false, 6, she s)), (4, .inl (false, 6, stu s))] (some (.int (she s h))) [(0, .inr (6, [.ref 1, .ref 5, .ref 7, .ref 10, .ref 18, .ref 26, .ref 31, .ref 35, .ref 37, .int (nI rk)])), (1, .inr (0, [.ref 2, .ref 3, .ref 4, .int (skn s), .int (sdr s), .int (swa s), .int (sbu s), .int (sni s)])), (2, .inl (false, 6, sce s)), (3, .inl (false, 6, she s)), (4, .inl (false, 6, stu s))] := by
  intro hp
  refine E_iload_n dX6_told_0 rfl ?_
  refine E_bipush (v := 10) dX6_told_1 (by decide) ?_
  refine E_icmp_lt (tgt := 19) dX6_told_3 (by decide) (fun c => absurd c (Int32.not_lt.mpr hx)) (fun _ => ?_)
  refine E_aload_n dX6_told_6 rfl ?_
  refine E_iload_n dX6_told_7 rfl ?_
  refine E_bipush (v := 10) dX6_told_8 (by decide) ?_
  refine E_idiv dX6_told_10 (by decide) ?_
  refine E_eqi (y := 2) (by have e := pk_div (a := 20 + h) (d := 10) (by omega) (by decide) (by decide); rw [show (20 + h) / 10 = 2 by omega] at e; exact e) ?_
  refine E_iload_n dX6_told_11 rfl ?_
  refine E_bipush (v := 10) dX6_told_12 (by decide) ?_
  refine E_irem dX6_told_14 (by decide) ?_
  refine E_eqi (y := nI h) (by have e := pk_rem (a := 20 + h) (d := 10) (by omega) (by decide) (by decide); rw [show (20 + h) % 10 = h by omega] at e; exact e) ?_
  refine E_callV (As := [.int 2, .int (nI h)]) (l' := [.ref 0, .int 2, .int (nI h)]) (st := []) dX6_told_15 kX6_281 iX6_toldOfHeap vX6_toldOfHeap (by decide) rfl rfl MX6_toldOfHeap rfl rfl (Nat.le_of_ble_eq_true rfl) (FC.use (c_tofh_2 d rk s h hh hv) rfl (L2 := [(0, .inr (6, [.ref 1, .ref 5, .ref 7, .ref 10, .ref 18, .ref 26, .ref 31, .ref 35, .ref 37, .int (nI rk)])), (1, .inr (0, [.ref 2, .ref 3, .ref 4, .int (skn s), .int (sdr s), .int (swa s), .int (sbu s), .int (sni s)])), (2, .inl (false, 6, sce s)), (3, .inl (false, 6, she s)), (4, .inl (false, 6, stu s))]) rfl) (Nat.le_of_ble_eq_true rfl) (fun _ _ hq9 => E_fgo ?_ hq9)
  show E _ _ 18 [.ref 0, .int (nI (20 + h))] [.int (she s h)] (hov hp [(0, .inr (6, [.ref 1, .ref 5, .ref 7, .ref 10, .ref 18, .ref 26, .ref 31, .ref 35, .ref 37, .int (nI rk)])), (1, .inr (0, [.ref 2, .ref 3, .ref 4, .int (skn s), .int (sdr s), .int (swa s), .int (sbu s), .int (sni s)])), (2, .inl (false, 6, sce s)), (3, .inl (false, 6, she s)), (4, .inl (false, 6, stu s))]) _
  exact E_iretf dX6_told_18 rfl rfl rfl rfl

set_option maxHeartbeats 4000000 in
set_option maxRecDepth 20000 in
theorem c_tofh_3 (d : Nat) (rk : Nat) (s : CS) (h : Nat) (hh : h < 6) (hv : inL (Int32.toInt64 (nI h)) 0 5 = true) : FC YX6_toldOfHeap (d + 2) [.ref 0, .int 3, .int (nI h)] [(0, .inr (6, [.ref 1, .ref 5, .ref 7, .ref 10, .ref 18, .ref 26, .ref 31, .ref 35, .ref 37, .int (nI rk)])), (1, .inr (0, [.ref 2, .ref 3, .ref 4, .int (skn s), .int (sdr s), .int (swa s), .int (sbu s), .int (sni s)])), (2, .inl (false, 6, sce s)), (3, .inl (false, 6, she s)), (4, .inl (false, 6, stu s))] (some (.int (stu s h))) [(0, .inr (6, [.ref 1, .ref 5, .ref 7, .ref 10, .ref 18, .ref 26, .ref 31, .ref 35, .ref 37, .int (nI rk)])), (1, .inr (0, [.ref 2, .ref 3, .ref 4, .int (skn s), .int (sdr s), .int (swa s), .int (sbu s), .int (sni s)])), (2, .inl (false, 6, sce s)), (3, .inl (false, 6, she s)), (4, .inl (false, 6, stu s))] := by
  intro hp
  refine E_iload_n dX6_toldOfHeap_0 rfl ?_
  refine E_callS (As := [.int (nI h)]) (l' := [.int (nI h)]) (st := []) dX6_toldOfHeap_1 kX6_65 sX6_isHeap MX6_isHeap rfl rfl (Nat.le_of_ble_eq_true rfl) (FC.use (c_isHeap d _) rfl (L2 := [(0, .inr (6, [.ref 1, .ref 5, .ref 7, .ref 10, .ref 18, .ref 26, .ref 31, .ref 35, .ref 37, .int (nI rk)])), (1, .inr (0, [.ref 2, .ref 3, .ref 4, .int (skn s), .int (sdr s), .int (swa s), .int (sbu s), .int (sni s)])), (2, .inl (false, 6, sce s)), (3, .inl (false, 6, she s)), (4, .inl (false, 6, stu s))]) rfl) (Nat.le_of_ble_eq_true rfl) (fun _ _ hq9 => E_fgo ?_ hq9)
  show E _ _ 4 [.ref 0, .int 3, .int (nI h)] [.int (b2i (inL (Int32.toInt64 (nI h)) 0 5))] (hov hp [(0, .inr (6, [.ref 1, .ref 5, .ref 7, .ref 10, .ref 18, .ref 26, .ref 31, .ref 35, .ref 37, .int (nI rk)])), (1, .inr (0, [.ref 2, .ref 3, .ref 4, .int (skn s), .int (sdr s), .int (swa s), .int (sbu s), .int (sni s)])), (2, .inl (false, 6, sce s)), (3, .inl (false, 6, she s)), (4, .inl (false, 6, stu s))]) _
  refine E_if_ne (tgt := 10) dX6_toldOfHeap_4 (by decide) (fun _ => ?_) (fun c => (b2i_x1 hv c).elim)
  refine E_iload_n dX6_toldOfHeap_10 rfl ?_
  refine E_tableIn (off := 45) (tgt := 56) dX6_toldOfHeap_11 (by decide) (by decide) (by decide) (by decide) ?_
  refine E_aload_n dX6_toldOfHeap_56 rfl ?_
  refine E_get dX6_toldOfHeap_57 fX6_12 (by decide) rfl rfl ?_
  refine E_get dX6_toldOfHeap_60 fX6_143 (by decide) rfl rfl ?_
  refine E_iload_n dX6_toldOfHeap_63 rfl ?_
  refine E_ialdN (j := h) dX6_toldOfHeap_64 (by decide) rfl (by omega) (by decide) ?_
  exact E_iretf dX6_toldOfHeap_65 rfl rfl rfl rfl

set_option maxHeartbeats 4000000 in
set_option maxRecDepth 20000 in
theorem t_told_h3 (d : Nat) (rk : Nat) (s : CS) (h : Nat) (hh : h < 6) (hv : inL (Int32.toInt64 (nI h)) 0 5 = true) (hx : 10 ≤ nI (30 + h)) : FC YX6_told (d + 3) [.ref 0, .int (nI (30 + h))] [(0, .inr (6, [.ref 1, .ref 5, .ref 7, .ref 10, .ref 18, .ref 26, .ref 31, .ref 35, .ref 37, .int (nI rk)])), (1, .inr (0, [.ref 2, .ref 3, .ref 4, .int (skn s), .int (sdr s), .int (swa s), .int (sbu s), .int (sni s)])), (2, .inl (false, 6, sce s)), (3, .inl (false, 6, she s)), (4, .inl (false, 6, stu s))] (some (.int (stu s h))) [(0, .inr (6, [.ref 1, .ref 5, .ref 7, .ref 10, .ref 18, .ref 26, .ref 31, .ref 35, .ref 37, .int (nI rk)])), (1, .inr (0, [.ref 2, .ref 3, .ref 4, .int (skn s), .int (sdr s), .int (swa s), .int (sbu s), .int (sni s)])), (2, .inl (false, 6, sce s)), (3, .inl (false, 6, she s)), (4, .inl (false, 6, stu s))] := by
  intro hp
  refine E_iload_n dX6_told_0 rfl ?_
  refine E_bipush (v := 10) dX6_told_1 (by decide) ?_
  refine E_icmp_lt (tgt := 19) dX6_told_3 (by decide) (fun c => absurd c (Int32.not_lt.mpr hx)) (fun _ => ?_)
  refine E_aload_n dX6_told_6 rfl ?_
  refine E_iload_n dX6_told_7 rfl ?_
  refine E_bipush (v := 10) dX6_told_8 (by decide) ?_
  refine E_idiv dX6_told_10 (by decide) ?_
  refine E_eqi (y := 3) (by have e := pk_div (a := 30 + h) (d := 10) (by omega) (by decide) (by decide); rw [show (30 + h) / 10 = 3 by omega] at e; exact e) ?_
  refine E_iload_n dX6_told_11 rfl ?_
  refine E_bipush (v := 10) dX6_told_12 (by decide) ?_
  refine E_irem dX6_told_14 (by decide) ?_
  refine E_eqi (y := nI h) (by have e := pk_rem (a := 30 + h) (d := 10) (by omega) (by decide) (by decide); rw [show (30 + h) % 10 = h by omega] at e; exact e) ?_
  refine E_callV (As := [.int 3, .int (nI h)]) (l' := [.ref 0, .int 3, .int (nI h)]) (st := []) dX6_told_15 kX6_281 iX6_toldOfHeap vX6_toldOfHeap (by decide) rfl rfl MX6_toldOfHeap rfl rfl (Nat.le_of_ble_eq_true rfl) (FC.use (c_tofh_3 d rk s h hh hv) rfl (L2 := [(0, .inr (6, [.ref 1, .ref 5, .ref 7, .ref 10, .ref 18, .ref 26, .ref 31, .ref 35, .ref 37, .int (nI rk)])), (1, .inr (0, [.ref 2, .ref 3, .ref 4, .int (skn s), .int (sdr s), .int (swa s), .int (sbu s), .int (sni s)])), (2, .inl (false, 6, sce s)), (3, .inl (false, 6, she s)), (4, .inl (false, 6, stu s))]) rfl) (Nat.le_of_ble_eq_true rfl) (fun _ _ hq9 => E_fgo ?_ hq9)
  show E _ _ 18 [.ref 0, .int (nI (30 + h))] [.int (stu s h)] (hov hp [(0, .inr (6, [.ref 1, .ref 5, .ref 7, .ref 10, .ref 18, .ref 26, .ref 31, .ref 35, .ref 37, .int (nI rk)])), (1, .inr (0, [.ref 2, .ref 3, .ref 4, .int (skn s), .int (sdr s), .int (swa s), .int (sbu s), .int (sni s)])), (2, .inl (false, 6, sce s)), (3, .inl (false, 6, she s)), (4, .inl (false, 6, stu s))]) _
  exact E_iretf dX6_told_18 rfl rfl rfl rfl

set_option maxHeartbeats 4000000 in
set_option maxRecDepth 20000 in
theorem t_told_oB (d : Nat) (rk : Nat) (x : Int32) (h : 10 ≤ x) (hv : inL (Int32.toInt64 (rmI x 10)) 0 5 = false) : FC YX6_told (d + 3) [.ref 0, .int x] [(0, .inr (6, [.ref 1, .ref 5, .ref 7, .ref 10, .ref 18, .ref 26, .ref 31, .ref 35, .ref 37, .int (nI rk)]))] (some (.int (-2))) [(0, .inr (6, [.ref 1, .ref 5, .ref 7, .ref 10, .ref 18, .ref 26, .ref 31, .ref 35, .ref 37, .int (nI rk)]))] := by
  intro hp
  refine E_iload_n dX6_told_0 rfl ?_
  refine E_bipush (v := 10) dX6_told_1 (by decide) ?_
  refine E_icmp_lt (tgt := 19) dX6_told_3 (by decide) (fun c => absurd c (Int32.not_lt.mpr h)) (fun _ => ?_)
  refine E_aload_n dX6_told_6 rfl ?_
  refine E_iload_n dX6_told_7 rfl ?_
  refine E_bipush (v := 10) dX6_told_8 (by decide) ?_
  refine E_idiv dX6_told_10 (by decide) ?_
  refine E_iload_n dX6_told_11 rfl ?_
  refine E_bipush (v := 10) dX6_told_12 (by decide) ?_
  refine E_irem dX6_told_14 (by decide) ?_
  refine E_callV (As := [.int (x / 10), .int (rmI x 10)]) (l' := [.ref 0, .int (x / 10), .int (rmI x 10)]) (st := []) dX6_told_15 kX6_281 iX6_toldOfHeap vX6_toldOfHeap (by decide) rfl rfl MX6_toldOfHeap rfl rfl (Nat.le_of_ble_eq_true rfl) (FC.use (c_tofh_no d rk _ _ hv) rfl (L2 := [(0, .inr (6, [.ref 1, .ref 5, .ref 7, .ref 10, .ref 18, .ref 26, .ref 31, .ref 35, .ref 37, .int (nI rk)]))]) rfl) (Nat.le_of_ble_eq_true rfl) (fun _ _ hq9 => E_fgo ?_ hq9)
  show E _ _ 18 [.ref 0, .int x] [.int (-2)] (hov hp [(0, .inr (6, [.ref 1, .ref 5, .ref 7, .ref 10, .ref 18, .ref 26, .ref 31, .ref 35, .ref 37, .int (nI rk)]))]) _
  exact E_iretf dX6_told_18 rfl rfl rfl rfl

set_option maxHeartbeats 4000000 in
set_option maxRecDepth 20000 in
theorem t_told_oC (d : Nat) (rk : Nat) (x : Int32) (h : 10 ≤ x) (hv : inL (Int32.toInt64 (rmI x 10)) 0 5 = true) (hx : (x / 10).toInt < 1 ∨ 3 < (x / 10).toInt) : FC YX6_told (d + 3) [.ref 0, .int x] [(0, .inr (6, [.ref 1, .ref 5, .ref 7, .ref 10, .ref 18, .ref 26, .ref 31, .ref 35, .ref 37, .int (nI rk)]))] (some (.int (-2))) [(0, .inr (6, [.ref 1, .ref 5, .ref 7, .ref 10, .ref 18, .ref 26, .ref 31, .ref 35, .ref 37, .int (nI rk)]))] := by
  intro hp
  refine E_iload_n dX6_told_0 rfl ?_
  refine E_bipush (v := 10) dX6_told_1 (by decide) ?_
  refine E_icmp_lt (tgt := 19) dX6_told_3 (by decide) (fun c => absurd c (Int32.not_lt.mpr h)) (fun _ => ?_)
  refine E_aload_n dX6_told_6 rfl ?_
  refine E_iload_n dX6_told_7 rfl ?_
  refine E_bipush (v := 10) dX6_told_8 (by decide) ?_
  refine E_idiv dX6_told_10 (by decide) ?_
  refine E_iload_n dX6_told_11 rfl ?_
  refine E_bipush (v := 10) dX6_told_12 (by decide) ?_
  refine E_irem dX6_told_14 (by decide) ?_
  refine E_callV (As := [.int (x / 10), .int (rmI x 10)]) (l' := [.ref 0, .int (x / 10), .int (rmI x 10)]) (st := []) dX6_told_15 kX6_281 iX6_toldOfHeap vX6_toldOfHeap (by decide) rfl rfl MX6_toldOfHeap rfl rfl (Nat.le_of_ble_eq_true rfl) (FC.use (c_tofh_out d rk _ _ hv hx) rfl (L2 := [(0, .inr (6, [.ref 1, .ref 5, .ref 7, .ref 10, .ref 18, .ref 26, .ref 31, .ref 35, .ref 37, .int (nI rk)]))]) rfl) (Nat.le_of_ble_eq_true rfl) (fun _ _ hq9 => E_fgo ?_ hq9)
  show E _ _ 18 [.ref 0, .int x] [.int (-2)] (hov hp [(0, .inr (6, [.ref 1, .ref 5, .ref 7, .ref 10, .ref 18, .ref 26, .ref 31, .ref 35, .ref 37, .int (nI rk)]))]) _
  exact E_iretf dX6_told_18 rfl rfl rfl rfl

/-- a year: the draws, and what is done by them -/
def yX (x : Nat) : Nat := (75 * x + 74) % 65537
def yK (x : Nat) : Nat := if x / 6 % 8 < 5 then x / 6 % 8 else 5
def yN (s : CS) (x : Nat) : CS := if rsn s (yK x) (x % 6) (nI (x / 48 % 25)) = 0 then prS s (yK x) (x % 6) (nI (x / 48 % 25)) else s
def yr (s : CS) (seed : Nat) : Nat → CS × Nat
  | 0 => (s, seed)
  | i + 1 => (yN (yr s seed i).1 (yX (yr s seed i).2), yX (yr s seed i).2)
theorem yr_lt {s : CS} {seed : Nat} (h : seed < 65537) : ∀ i, (yr s seed i).2 < 65537
  | 0 => h
  | i + 1 => Nat.mod_lt _ (by decide)
theorem yX_m {x : Nat} (h : x < 65537) : rmI (75 * nI x + 74) 65537 = nI (yX x) := by
  have e1 : 75 * nI x + 74 = nI (75 * x + 74) := by
    rw [show (75 : Int32) = nI 75 from rfl, show (74 : Int32) = nI 74 from rfl, pk_mul, nI_add]
  rw [e1]
  exact pk_rem (a := 75 * x + 74) (d := 65537) (by omega) (by decide) (by decide)
theorem min5 {k : Nat} (h : 5 ≤ k) (h2 : k < 8) : minI (nI k) 5 = 5 := by
  have : k = 5 ∨ k = 6 ∨ k = 7 := by omega
  rcases this with e | e | e <;> subst e <;> decide
theorem nI_d {x d : Nat} (hx : x < 2 ^ 31) (h0 : 0 < d) (hd : d < 2 ^ 31) : nI x / nI d = nI (x / d) := pk_div hx h0 hd
theorem nI_r {x d : Nat} (hx : x < 2 ^ 31) (h0 : 0 < d) (hd : d < 2 ^ 31) : rmI (nI x) (nI d) = nI (x % d) := pk_rem hx h0 hd
theorem xor6_nn {k : Nat} (h : k < 2 ^ 31) : (0 : Int32) ≤ nI k ^^^ 6 := by
  have h1 : (nI k).toBitVec.msb = false := by
    show (BitVec.ofNat 32 k).msb = false
    rw [BitVec.msb_eq_decide, BitVec.toNat_ofNat, Nat.mod_eq_of_lt (by omega)]
    exact decide_eq_false (by omega)
  have h2 : (nI k ^^^ 6).toBitVec.msb = false := by
    rw [Int32.toBitVec_xor, BitVec.msb_xor, h1]
    rfl
  rw [Int32.le_iff_toInt_le]
  show (0 : Int) ≤ (nI k ^^^ 6).toBitVec.toInt
  rw [BitVec.toInt_eq_msb_cond, h2]
  exact Int.natCast_nonneg _

set_option maxHeartbeats 4000000 in
set_option maxRecDepth 20000 in
theorem c_fmod6 (d : Nat) (k : Nat) (hk : k < 2 ^ 31) : FC YJ9_floorMod_7cf53 d [.int (nI k), .int 6, .null] [] (some (.int (nI (k % 6)))) [] := by
  intro hp
  refine E_iload_n dJ9_floorMod_7cf53_0 rfl ?_
  refine E_iload_n dJ9_floorMod_7cf53_1 rfl ?_
  refine E_irem dJ9_floorMod_7cf53_2 (by decide) ?_
  refine E_eqi (y := nI (k % 6)) (nI_r hk (by decide) (by decide)) ?_
  refine E_istore_n (l2 := [.int (nI k), .int 6, .int (nI (k % 6))]) dJ9_floorMod_7cf53_3 rfl (by decide) rfl ?_
  refine E_iload_n dJ9_floorMod_7cf53_4 rfl ?_
  refine E_iload_n dJ9_floorMod_7cf53_5 rfl ?_
  refine E_ixor dJ9_floorMod_7cf53_6 ?_
  refine E_if_ge (tgt := 18) dJ9_floorMod_7cf53_7 (by decide) (fun _ => ?_) (fun c => absurd (xor6_nn hk) c)
  refine E_iload_n dJ9_floorMod_7cf53_18 rfl ?_
  exact E_iretf dJ9_floorMod_7cf53_19 rfl rfl rfl rfl

set_option maxHeartbeats 4000000 in
set_option maxRecDepth 20000 in
theorem t_year_o0 (d : Nat) (rk : Nat) (x m v : Int32) (h0 : inL (Int32.toInt64 x) 0 9999 = false) : FC YX6_year (d + 6) [.ref 0, .int x, .int m, .int v, .null, .null, .null, .null, .null, .null] [(0, .inr (6, [.ref 1, .ref 5, .ref 7, .ref 10, .ref 18, .ref 26, .ref 31, .ref 35, .ref 37, .int (nI rk)]))] (some (.int (-2))) [(0, .inr (6, [.ref 1, .ref 5, .ref 7, .ref 10, .ref 18, .ref 26, .ref 31, .ref 35, .ref 37, .int (nI rk)]))] := by
  intro hp
  refine E_iload_n dX6_year_0 rfl ?_
  refine E_i2l dX6_year_1 ?_
  refine E_lconst (v := 0) dX6_year_2 (by decide) ?_
  refine E_ldc2 dX6_year_3 qX6_189 ?_
  refine E_callS (As := [.long (Int32.toInt64 x), .long 0, .long 9999]) (l' := [.long (Int32.toInt64 x), .null, .long 0, .null, .long 9999, .null]) (st := []) dX6_year_6 kX6_73 sX6_isIn MX6_isIn rfl rfl (Nat.le_of_ble_eq_true rfl) (FC.use (c_isIn (d + 5) _ _ _) rfl (L2 := [(0, .inr (6, [.ref 1, .ref 5, .ref 7, .ref 10, .ref 18, .ref 26, .ref 31, .ref 35, .ref 37, .int (nI rk)]))]) rfl) (Nat.le_of_ble_eq_true rfl) (fun _ _ hq9 => E_fgo ?_ hq9)
  show E _ _ 9 [.ref 0, .int x, .int m, .int v, .null, .null, .null, .null, .null, .null] [.int (b2i (inL (Int32.toInt64 x) 0 9999))] (hov hp [(0, .inr (6, [.ref 1, .ref 5, .ref 7, .ref 10, .ref 18, .ref 26, .ref 31, .ref 35, .ref 37, .int (nI rk)]))]) _
  refine E_if_eq (tgt := 36) dX6_year_9 (by decide) (fun _ => ?_) (fun c => (b2i_x0 h0 c).elim)
  refine E_bipush (v := (-2)) dX6_year_36 (by decide) ?_
  exact E_iretf dX6_year_38 rfl rfl rfl rfl

set_option maxHeartbeats 4000000 in
set_option maxRecDepth 20000 in
theorem t_year_o1 (d : Nat) (rk : Nat) (x m v : Int32) (h0 : inL (Int32.toInt64 x) 0 9999 = true) (h1 : inL (Int32.toInt64 m) 1 99 = false) : FC YX6_year (d + 6) [.ref 0, .int x, .int m, .int v, .null, .null, .null, .null, .null, .null] [(0, .inr (6, [.ref 1, .ref 5, .ref 7, .ref 10, .ref 18, .ref 26, .ref 31, .ref 35, .ref 37, .int (nI rk)]))] (some (.int (-2))) [(0, .inr (6, [.ref 1, .ref 5, .ref 7, .ref 10, .ref 18, .ref 26, .ref 31, .ref 35, .ref 37, .int (nI rk)]))] := by
  intro hp
  refine E_iload_n dX6_year_0 rfl ?_
  refine E_i2l dX6_year_1 ?_
  refine E_lconst (v := 0) dX6_year_2 (by decide) ?_
  refine E_ldc2 dX6_year_3 qX6_189 ?_
  refine E_callS (As := [.long (Int32.toInt64 x), .long 0, .long 9999]) (l' := [.long (Int32.toInt64 x), .null, .long 0, .null, .long 9999, .null]) (st := []) dX6_year_6 kX6_73 sX6_isIn MX6_isIn rfl rfl (Nat.le_of_ble_eq_true rfl) (FC.use (c_isIn (d + 5) _ _ _) rfl (L2 := [(0, .inr (6, [.ref 1, .ref 5, .ref 7, .ref 10, .ref 18, .ref 26, .ref 31, .ref 35, .ref 37, .int (nI rk)]))]) rfl) (Nat.le_of_ble_eq_true rfl) (fun _ _ hq9 => E_fgo ?_ hq9)
  show E _ _ 9 [.ref 0, .int x, .int m, .int v, .null, .null, .null, .null, .null, .null] [.int (b2i (inL (Int32.toInt64 x) 0 9999))] (hov hp [(0, .inr (6, [.ref 1, .ref 5, .ref 7, .ref 10, .ref 18, .ref 26, .ref 31, .ref 35, .ref 37, .int (nI rk)]))]) _
  refine E_if_eq (tgt := 36) dX6_year_9 (by decide) (fun c => (b2i_x1 h0 c).elim) (fun _ => ?_)
  refine E_iload_n dX6_year_12 rfl ?_
  refine E_i2l dX6_year_13 ?_
  refine E_lconst (v := 1) dX6_year_14 (by decide) ?_
  refine E_ldc2 dX6_year_15 qX6_252 ?_
  refine E_callS (As := [.long (Int32.toInt64 m), .long 1, .long 99]) (l' := [.long (Int32.toInt64 m), .null, .long 1, .null, .long 99, .null]) (st := []) dX6_year_18 kX6_73 sX6_isIn MX6_isIn rfl rfl (Nat.le_of_ble_eq_true rfl) (FC.use (c_isIn (d + 5) _ _ _) rfl (L2 := [(0, .inr (6, [.ref 1, .ref 5, .ref 7, .ref 10, .ref 18, .ref 26, .ref 31, .ref 35, .ref 37, .int (nI rk)]))]) rfl) (Nat.le_of_ble_eq_true rfl) (fun _ _ hq9 => E_fgo ?_ hq9)
  show E _ _ 21 [.ref 0, .int x, .int m, .int v, .null, .null, .null, .null, .null, .null] [.int (b2i (inL (Int32.toInt64 m) 1 99))] (hov hp [(0, .inr (6, [.ref 1, .ref 5, .ref 7, .ref 10, .ref 18, .ref 26, .ref 31, .ref 35, .ref 37, .int (nI rk)]))]) _
  refine E_if_eq (tgt := 36) dX6_year_21 (by decide) (fun _ => ?_) (fun c => (b2i_x0 h1 c).elim)
  refine E_bipush (v := (-2)) dX6_year_36 (by decide) ?_
  exact E_iretf dX6_year_38 rfl rfl rfl rfl

set_option maxHeartbeats 4000000 in
set_option maxRecDepth 20000 in
theorem t_year_o2 (d : Nat) (rk : Nat) (x m v : Int32) (h0 : inL (Int32.toInt64 x) 0 9999 = true) (h1 : inL (Int32.toInt64 m) 1 99 = true) (h2 : inL (Int32.toInt64 v) 0 2 = false) : FC YX6_year (d + 6) [.ref 0, .int x, .int m, .int v, .null, .null, .null, .null, .null, .null] [(0, .inr (6, [.ref 1, .ref 5, .ref 7, .ref 10, .ref 18, .ref 26, .ref 31, .ref 35, .ref 37, .int (nI rk)]))] (some (.int (-2))) [(0, .inr (6, [.ref 1, .ref 5, .ref 7, .ref 10, .ref 18, .ref 26, .ref 31, .ref 35, .ref 37, .int (nI rk)]))] := by
  intro hp
  refine E_iload_n dX6_year_0 rfl ?_
  refine E_i2l dX6_year_1 ?_
  refine E_lconst (v := 0) dX6_year_2 (by decide) ?_
  refine E_ldc2 dX6_year_3 qX6_189 ?_
  refine E_callS (As := [.long (Int32.toInt64 x), .long 0, .long 9999]) (l' := [.long (Int32.toInt64 x), .null, .long 0, .null, .long 9999, .null]) (st := []) dX6_year_6 kX6_73 sX6_isIn MX6_isIn rfl rfl (Nat.le_of_ble_eq_true rfl) (FC.use (c_isIn (d + 5) _ _ _) rfl (L2 := [(0, .inr (6, [.ref 1, .ref 5, .ref 7, .ref 10, .ref 18, .ref 26, .ref 31, .ref 35, .ref 37, .int (nI rk)]))]) rfl) (Nat.le_of_ble_eq_true rfl) (fun _ _ hq9 => E_fgo ?_ hq9)
  show E _ _ 9 [.ref 0, .int x, .int m, .int v, .null, .null, .null, .null, .null, .null] [.int (b2i (inL (Int32.toInt64 x) 0 9999))] (hov hp [(0, .inr (6, [.ref 1, .ref 5, .ref 7, .ref 10, .ref 18, .ref 26, .ref 31, .ref 35, .ref 37, .int (nI rk)]))]) _
  refine E_if_eq (tgt := 36) dX6_year_9 (by decide) (fun c => (b2i_x1 h0 c).elim) (fun _ => ?_)
  refine E_iload_n dX6_year_12 rfl ?_
  refine E_i2l dX6_year_13 ?_
  refine E_lconst (v := 1) dX6_year_14 (by decide) ?_
  refine E_ldc2 dX6_year_15 qX6_252 ?_
  refine E_callS (As := [.long (Int32.toInt64 m), .long 1, .long 99]) (l' := [.long (Int32.toInt64 m), .null, .long 1, .null, .long 99, .null]) (st := []) dX6_year_18 kX6_73 sX6_isIn MX6_isIn rfl rfl (Nat.le_of_ble_eq_true rfl) (FC.use (c_isIn (d + 5) _ _ _) rfl (L2 := [(0, .inr (6, [.ref 1, .ref 5, .ref 7, .ref 10, .ref 18, .ref 26, .ref 31, .ref 35, .ref 37, .int (nI rk)]))]) rfl) (Nat.le_of_ble_eq_true rfl) (fun _ _ hq9 => E_fgo ?_ hq9)
  show E _ _ 21 [.ref 0, .int x, .int m, .int v, .null, .null, .null, .null, .null, .null] [.int (b2i (inL (Int32.toInt64 m) 1 99))] (hov hp [(0, .inr (6, [.ref 1, .ref 5, .ref 7, .ref 10, .ref 18, .ref 26, .ref 31, .ref 35, .ref 37, .int (nI rk)]))]) _
  refine E_if_eq (tgt := 36) dX6_year_21 (by decide) (fun c => (b2i_x1 h1 c).elim) (fun _ => ?_)
  refine E_iload_n dX6_year_24 rfl ?_
  refine E_i2l dX6_year_25 ?_
  refine E_lconst (v := 0) dX6_year_26 (by decide) ?_
  refine E_ldc2 dX6_year_27 qX6_138 ?_
  refine E_callS (As := [.long (Int32.toInt64 v), .long 0, .long 2]) (l' := [.long (Int32.toInt64 v), .null, .long 0, .null, .long 2, .null]) (st := []) dX6_year_30 kX6_73 sX6_isIn MX6_isIn rfl rfl (Nat.le_of_ble_eq_true rfl) (FC.use (c_isIn (d + 5) _ _ _) rfl (L2 := [(0, .inr (6, [.ref 1, .ref 5, .ref 7, .ref 10, .ref 18, .ref 26, .ref 31, .ref 35, .ref 37, .int (nI rk)]))]) rfl) (Nat.le_of_ble_eq_true rfl) (fun _ _ hq9 => E_fgo ?_ hq9)
  show E _ _ 33 [.ref 0, .int x, .int m, .int v, .null, .null, .null, .null, .null, .null] [.int (b2i (inL (Int32.toInt64 v) 0 2))] (hov hp [(0, .inr (6, [.ref 1, .ref 5, .ref 7, .ref 10, .ref 18, .ref 26, .ref 31, .ref 35, .ref 37, .int (nI rk)]))]) _
  refine E_if_ne (tgt := 39) dX6_year_33 (by decide) (fun c => (b2i_x0 h2 c).elim) (fun _ => ?_)
  refine E_bipush (v := (-2)) dX6_year_36 (by decide) ?_
  exact E_iretf dX6_year_38 rfl rfl rfl rfl

set_option maxHeartbeats 4000000 in
set_option maxRecDepth 20000 in
theorem t_year_0 (d : Nat) (rk : Nat) (s t : CS) (hA : Agr t s) (y0 y1 y2 y3 y4 y5 : Int32) (x m : Nat) (hx : x < 10000) (hm : m < 100) (h0 : inL (Int32.toInt64 (nI x)) 0 9999 = true) (h1 : inL (Int32.toInt64 (nI m)) 1 99 = true) : FC YX6_year (d + 6) [.ref 0, .int (nI x), .int (nI m), .int 0, .null, .null, .null, .null, .null, .null] [(0, .inr (6, [.ref 1, .ref 5, .ref 7, .ref 10, .ref 18, .ref 26, .ref 31, .ref 35, .ref 37, .int (nI rk)])), (1, .inr (0, [.ref 2, .ref 3, .ref 4, .int (skn s), .int (sdr s), .int (swa s), .int (sbu s), .int (sni s)])), (2, .inl (false, 6, sce s)), (3, .inl (false, 6, she s)), (4, .inl (false, 6, stu s)), (26, .inr (5, [.ref 27, .int y0, .int y1, .int y2, .int y3, .int y4, .int y5])), (27, .inr (0, [.ref 28, .ref 29, .ref 30, .int (skn t), .int (sdr t), .int (swa t), .int (sbu t), .int (sni t)])), (28, .inl (false, 6, sce t)), (29, .inl (false, 6, she t)), (30, .inl (false, 6, stu t))] (some (.int (bcI (skn (yr s x m).1)))) [(0, .inr (6, [.ref 1, .ref 5, .ref 7, .ref 10, .ref 18, .ref 26, .ref 31, .ref 35, .ref 37, .int (nI rk)])), (1, .inr (0, [.ref 2, .ref 3, .ref 4, .int (skn s), .int (sdr s), .int (swa s), .int (sbu s), .int (sni s)])), (2, .inl (false, 6, sce s)), (3, .inl (false, 6, she s)), (4, .inl (false, 6, stu s)), (26, .inr (5, [.ref 27, .int y0, .int y1, .int y2, .int y3, .int y4, .int y5])), (27, .inr (0, [.ref 28, .ref 29, .ref 30, .int (skn ((yr s x m).1)), .int (sdr ((yr s x m).1)), .int (swa ((yr s x m).1)), .int (sbu ((yr s x m).1)), .int (sni ((yr s x m).1))])), (28, .inl (false, 6, sce ((yr s x m).1))), (29, .inl (false, 6, she ((yr s x m).1))), (30, .inl (false, 6, stu ((yr s x m).1)))] := by
  intro hp
  refine E_iload_n dX6_year_0 rfl ?_
  refine E_i2l dX6_year_1 ?_
  refine E_lconst (v := 0) dX6_year_2 (by decide) ?_
  refine E_ldc2 dX6_year_3 qX6_189 ?_
  refine E_callS (As := [.long (Int32.toInt64 (nI x)), .long 0, .long 9999]) (l' := [.long (Int32.toInt64 (nI x)), .null, .long 0, .null, .long 9999, .null]) (st := []) dX6_year_6 kX6_73 sX6_isIn MX6_isIn rfl rfl (Nat.le_of_ble_eq_true rfl) (FC.use (c_isIn (d + 5) _ _ _) rfl (L2 := [(0, .inr (6, [.ref 1, .ref 5, .ref 7, .ref 10, .ref 18, .ref 26, .ref 31, .ref 35, .ref 37, .int (nI rk)])), (1, .inr (0, [.ref 2, .ref 3, .ref 4, .int (skn s), .int (sdr s), .int (swa s), .int (sbu s), .int (sni s)])), (2, .inl (false, 6, sce s)), (3, .inl (false, 6, she s)), (4, .inl (false, 6, stu s)), (26, .inr (5, [.ref 27, .int y0, .int y1, .int y2, .int y3, .int y4, .int y5])), (27, .inr (0, [.ref 28, .ref 29, .ref 30, .int (skn t), .int (sdr t), .int (swa t), .int (sbu t), .int (sni t)])), (28, .inl (false, 6, sce t)), (29, .inl (false, 6, she t)), (30, .inl (false, 6, stu t))]) rfl) (Nat.le_of_ble_eq_true rfl) (fun _ _ hq9 => E_fgo ?_ hq9)
  show E _ _ 9 [.ref 0, .int (nI x), .int (nI m), .int 0, .null, .null, .null, .null, .null, .null] [.int (b2i (inL (Int32.toInt64 (nI x)) 0 9999))] (hov hp [(0, .inr (6, [.ref 1, .ref 5, .ref 7, .ref 10, .ref 18, .ref 26, .ref 31, .ref 35, .ref 37, .int (nI rk)])), (1, .inr (0, [.ref 2, .ref 3, .ref 4, .int (skn s), .int (sdr s), .int (swa s), .int (sbu s), .int (sni s)])), (2, .inl (false, 6, sce s)), (3, .inl (false, 6, she s)), (4, .inl (false, 6, stu s)), (26, .inr (5, [.ref 27, .int y0, .int y1, .int y2, .int y3, .int y4, .int y5])), (27, .inr (0, [.ref 28, .ref 29, .ref 30, .int (skn t), .int (sdr t), .int (swa t), .int (sbu t), .int (sni t)])), (28, .inl (false, 6, sce t)), (29, .inl (false, 6, she t)), (30, .inl (false, 6, stu t))]) _
  refine E_if_eq (tgt := 36) dX6_year_9 (by decide) (fun c => (b2i_x1 h0 c).elim) (fun _ => ?_)
  refine E_iload_n dX6_year_12 rfl ?_
  refine E_i2l dX6_year_13 ?_
  refine E_lconst (v := 1) dX6_year_14 (by decide) ?_
  refine E_ldc2 dX6_year_15 qX6_252 ?_
  refine E_callS (As := [.long (Int32.toInt64 (nI m)), .long 1, .long 99]) (l' := [.long (Int32.toInt64 (nI m)), .null, .long 1, .null, .long 99, .null]) (st := []) dX6_year_18 kX6_73 sX6_isIn MX6_isIn rfl rfl (Nat.le_of_ble_eq_true rfl) (FC.use (c_isIn (d + 5) _ _ _) rfl (L2 := [(0, .inr (6, [.ref 1, .ref 5, .ref 7, .ref 10, .ref 18, .ref 26, .ref 31, .ref 35, .ref 37, .int (nI rk)])), (1, .inr (0, [.ref 2, .ref 3, .ref 4, .int (skn s), .int (sdr s), .int (swa s), .int (sbu s), .int (sni s)])), (2, .inl (false, 6, sce s)), (3, .inl (false, 6, she s)), (4, .inl (false, 6, stu s)), (26, .inr (5, [.ref 27, .int y0, .int y1, .int y2, .int y3, .int y4, .int y5])), (27, .inr (0, [.ref 28, .ref 29, .ref 30, .int (skn t), .int (sdr t), .int (swa t), .int (sbu t), .int (sni t)])), (28, .inl (false, 6, sce t)), (29, .inl (false, 6, she t)), (30, .inl (false, 6, stu t))]) rfl) (Nat.le_of_ble_eq_true rfl) (fun _ _ hq9 => E_fgo ?_ hq9)
  show E _ _ 21 [.ref 0, .int (nI x), .int (nI m), .int 0, .null, .null, .null, .null, .null, .null] [.int (b2i (inL (Int32.toInt64 (nI m)) 1 99))] (hov hp [(0, .inr (6, [.ref 1, .ref 5, .ref 7, .ref 10, .ref 18, .ref 26, .ref 31, .ref 35, .ref 37, .int (nI rk)])), (1, .inr (0, [.ref 2, .ref 3, .ref 4, .int (skn s), .int (sdr s), .int (swa s), .int (sbu s), .int (sni s)])), (2, .inl (false, 6, sce s)), (3, .inl (false, 6, she s)), (4, .inl (false, 6, stu s)), (26, .inr (5, [.ref 27, .int y0, .int y1, .int y2, .int y3, .int y4, .int y5])), (27, .inr (0, [.ref 28, .ref 29, .ref 30, .int (skn t), .int (sdr t), .int (swa t), .int (sbu t), .int (sni t)])), (28, .inl (false, 6, sce t)), (29, .inl (false, 6, she t)), (30, .inl (false, 6, stu t))]) _
  refine E_if_eq (tgt := 36) dX6_year_21 (by decide) (fun c => (b2i_x1 h1 c).elim) (fun _ => ?_)
  refine E_iload_n dX6_year_24 rfl ?_
  refine E_i2l dX6_year_25 ?_
  refine E_lconst (v := 0) dX6_year_26 (by decide) ?_
  refine E_ldc2 dX6_year_27 qX6_138 ?_
  refine E_callS (As := [.long (Int32.toInt64 0), .long 0, .long 2]) (l' := [.long (Int32.toInt64 0), .null, .long 0, .null, .long 2, .null]) (st := []) dX6_year_30 kX6_73 sX6_isIn MX6_isIn rfl rfl (Nat.le_of_ble_eq_true rfl) (FC.use (c_isIn (d + 5) _ _ _) rfl (L2 := [(0, .inr (6, [.ref 1, .ref 5, .ref 7, .ref 10, .ref 18, .ref 26, .ref 31, .ref 35, .ref 37, .int (nI rk)])), (1, .inr (0, [.ref 2, .ref 3, .ref 4, .int (skn s), .int (sdr s), .int (swa s), .int (sbu s), .int (sni s)])), (2, .inl (false, 6, sce s)), (3, .inl (false, 6, she s)), (4, .inl (false, 6, stu s)), (26, .inr (5, [.ref 27, .int y0, .int y1, .int y2, .int y3, .int y4, .int y5])), (27, .inr (0, [.ref 28, .ref 29, .ref 30, .int (skn t), .int (sdr t), .int (swa t), .int (sbu t), .int (sni t)])), (28, .inl (false, 6, sce t)), (29, .inl (false, 6, she t)), (30, .inl (false, 6, stu t))]) rfl) (Nat.le_of_ble_eq_true rfl) (fun _ _ hq9 => E_fgo ?_ hq9)
  show E _ _ 33 [.ref 0, .int (nI x), .int (nI m), .int 0, .null, .null, .null, .null, .null, .null] [.int (b2i (inL (Int32.toInt64 0) 0 2))] (hov hp [(0, .inr (6, [.ref 1, .ref 5, .ref 7, .ref 10, .ref 18, .ref 26, .ref 31, .ref 35, .ref 37, .int (nI rk)])), (1, .inr (0, [.ref 2, .ref 3, .ref 4, .int (skn s), .int (sdr s), .int (swa s), .int (sbu s), .int (sni s)])), (2, .inl (false, 6, sce s)), (3, .inl (false, 6, she s)), (4, .inl (false, 6, stu s)), (26, .inr (5, [.ref 27, .int y0, .int y1, .int y2, .int y3, .int y4, .int y5])), (27, .inr (0, [.ref 28, .ref 29, .ref 30, .int (skn t), .int (sdr t), .int (swa t), .int (sbu t), .int (sni t)])), (28, .inl (false, 6, sce t)), (29, .inl (false, 6, she t)), (30, .inl (false, 6, stu t))]) _
  refine E_if_ne (tgt := 39) dX6_year_33 (by decide) (fun _ => ?_) (fun c => (b2i_x1 (by decide) c).elim)
  refine E_aload_n dX6_year_39 rfl ?_
  refine E_get dX6_year_40 fX6_43 (by decide) rfl rfl ?_
  refine E_get dX6_year_43 fX6_128 (by decide) rfl rfl ?_
  refine E_astore (l2 := [.ref 0, .int (nI x), .int (nI m), .int 0, .ref 27, .null, .null, .null, .null, .null]) dX6_year_46 (by decide) rfl ?_
  refine E_aload dX6_year_48 rfl ?_
  refine E_aload_n dX6_year_50 rfl ?_
  refine E_get dX6_year_51 fX6_12 (by decide) rfl rfl ?_
  refine E_callV (As := [.ref 1]) (l' := [.ref 27, .ref 1, .null]) (st := []) dX6_year_54 kX6_131 iX0_copyFrom vX0_copyFrom (by decide) rfl rfl MX0_copyFrom rfl rfl (Nat.le_of_ble_eq_true rfl) (FC.use (c_copy_27_1 (d + 5) t s hA) rfl (L2 := [(0, .inr (6, [.ref 1, .ref 5, .ref 7, .ref 10, .ref 18, .ref 26, .ref 31, .ref 35, .ref 37, .int (nI rk)])), (1, .inr (0, [.ref 2, .ref 3, .ref 4, .int (skn s), .int (sdr s), .int (swa s), .int (sbu s), .int (sni s)])), (2, .inl (false, 6, sce s)), (3, .inl (false, 6, she s)), (4, .inl (false, 6, stu s)), (26, .inr (5, [.ref 27, .int y0, .int y1, .int y2, .int y3, .int y4, .int y5])), (27, .inr (0, [.ref 28, .ref 29, .ref 30, .int (skn s), .int (sdr s), .int (swa s), .int (sbu s), .int (sni s)])), (28, .inl (false, 6, sce s)), (29, .inl (false, 6, she s)), (30, .inl (false, 6, stu s))]) rfl) (Nat.le_of_ble_eq_true rfl) (fun _ _ hq9 => E_fgo ?_ hq9)
  show E _ _ 57 [.ref 0, .int (nI x), .int (nI m), .int 0, .ref 27, .null, .null, .null, .null, .null] [] (hov hp [(0, .inr (6, [.ref 1, .ref 5, .ref 7, .ref 10, .ref 18, .ref 26, .ref 31, .ref 35, .ref 37, .int (nI rk)])), (1, .inr (0, [.ref 2, .ref 3, .ref 4, .int (skn s), .int (sdr s), .int (swa s), .int (sbu s), .int (sni s)])), (2, .inl (false, 6, sce s)), (3, .inl (false, 6, she s)), (4, .inl (false, 6, stu s)), (26, .inr (5, [.ref 27, .int y0, .int y1, .int y2, .int y3, .int y4, .int y5])), (27, .inr (0, [.ref 28, .ref 29, .ref 30, .int (skn s), .int (sdr s), .int (swa s), .int (sbu s), .int (sni s)])), (28, .inl (false, 6, sce s)), (29, .inl (false, 6, she s)), (30, .inl (false, 6, stu s))]) _
  refine E_iload_n dX6_year_57 rfl ?_
  refine E_istore (l2 := [.ref 0, .int (nI x), .int (nI m), .int 0, .ref 27, .int (nI x), .null, .null, .null, .null]) dX6_year_58 (by decide) rfl ?_
  refine E_iconst (v := 0) dX6_year_60 (by decide) ?_
  refine E_istore (l2 := [.ref 0, .int (nI x), .int (nI m), .int 0, .ref 27, .int (nI x), .int 0, .null, .null, .null]) dX6_year_61 (by decide) rfl ?_
  have L63 : ∀ i, i ≤ m → ∀ l7 l8 l9 : Value, E YX6_year (d + 6) 63 [.ref 0, .int (nI x), .int (nI m), .int 0, .ref 27, .int (nI ((yr s x i).2)), .int (nI i), l7, l8, l9] [] (hov hp [(0, .inr (6, [.ref 1, .ref 5, .ref 7, .ref 10, .ref 18, .ref 26, .ref 31, .ref 35, .ref 37, .int (nI rk)])), (1, .inr (0, [.ref 2, .ref 3, .ref 4, .int (skn s), .int (sdr s), .int (swa s), .int (sbu s), .int (sni s)])), (2, .inl (false, 6, sce s)), (3, .inl (false, 6, she s)), (4, .inl (false, 6, stu s)), (26, .inr (5, [.ref 27, .int y0, .int y1, .int y2, .int y3, .int y4, .int y5])), (27, .inr (0, [.ref 28, .ref 29, .ref 30, .int (skn ((yr s x i).1)), .int (sdr ((yr s x i).1)), .int (swa ((yr s x i).1)), .int (sbu ((yr s x i).1)), .int (sni ((yr s x i).1))])), (28, .inl (false, 6, sce ((yr s x i).1))), (29, .inl (false, 6, she ((yr s x i).1))), (30, .inl (false, 6, stu ((yr s x i).1)))]) (fun v h' => v = some (.int (bcI (skn (yr s x m).1))) ∧ h' = hov hp [(0, .inr (6, [.ref 1, .ref 5, .ref 7, .ref 10, .ref 18, .ref 26, .ref 31, .ref 35, .ref 37, .int (nI rk)])), (1, .inr (0, [.ref 2, .ref 3, .ref 4, .int (skn s), .int (sdr s), .int (swa s), .int (sbu s), .int (sni s)])), (2, .inl (false, 6, sce s)), (3, .inl (false, 6, she s)), (4, .inl (false, 6, stu s)), (26, .inr (5, [.ref 27, .int y0, .int y1, .int y2, .int y3, .int y4, .int y5])), (27, .inr (0, [.ref 28, .ref 29, .ref 30, .int (skn ((yr s x m).1)), .int (sdr ((yr s x m).1)), .int (swa ((yr s x m).1)), .int (sbu ((yr s x m).1)), .int (sni ((yr s x m).1))])), (28, .inl (false, 6, sce ((yr s x m).1))), (29, .inl (false, 6, she ((yr s x m).1))), (30, .inl (false, 6, stu ((yr s x m).1)))]) := by
    refine down m ?_ ?_
    · intro l7 l8 l9
      refine E_iload dX6_year_63 rfl ?_
      refine E_iload_n dX6_year_65 rfl ?_
      refine E_icmp_ge (tgt := 147) dX6_year_66 (by decide) (fun _ => ?_) (fun c => absurd (nI_le (Nat.le_refl _) (by omega)) c)
      refine E_iload_n dX6_year_147 rfl ?_
      refine E_lookup (off := 28) (tgt := 176) dX6_year_148 (by decide) (by decide) (by decide) ?_
      refine E_aload dX6_year_176 rfl ?_
      refine E_get dX6_year_178 fX6_146 (by decide) rfl rfl ?_
      refine E_callS (As := [.int (skn ((yr s x m).1))]) (l' := [.int (skn ((yr s x m).1))]) (st := []) dX6_year_181 kX6_95 sJ6_bitCount_0f7a4 MJ6_bitCount_0f7a4 rfl rfl (Nat.le_of_ble_eq_true rfl) (FC.use (c_bitCount (d + 5) _) rfl (L2 := [(0, .inr (6, [.ref 1, .ref 5, .ref 7, .ref 10, .ref 18, .ref 26, .ref 31, .ref 35, .ref 37, .int (nI rk)])), (1, .inr (0, [.ref 2, .ref 3, .ref 4, .int (skn s), .int (sdr s), .int (swa s), .int (sbu s), .int (sni s)])), (2, .inl (false, 6, sce s)), (3, .inl (false, 6, she s)), (4, .inl (false, 6, stu s)), (26, .inr (5, [.ref 27, .int y0, .int y1, .int y2, .int y3, .int y4, .int y5])), (27, .inr (0, [.ref 28, .ref 29, .ref 30, .int (skn ((yr s x m).1)), .int (sdr ((yr s x m).1)), .int (swa ((yr s x m).1)), .int (sbu ((yr s x m).1)), .int (sni ((yr s x m).1))])), (28, .inl (false, 6, sce ((yr s x m).1))), (29, .inl (false, 6, she ((yr s x m).1))), (30, .inl (false, 6, stu ((yr s x m).1)))]) rfl) (Nat.le_of_ble_eq_true rfl) (fun _ _ hq9 => E_fgo ?_ hq9)
      show E _ _ 184 [.ref 0, .int (nI x), .int (nI m), .int 0, .ref 27, .int (nI ((yr s x m).2)), .int (nI m), l7, l8, l9] [.int (bcI (skn ((yr s x m).1)))] (hov hp [(0, .inr (6, [.ref 1, .ref 5, .ref 7, .ref 10, .ref 18, .ref 26, .ref 31, .ref 35, .ref 37, .int (nI rk)])), (1, .inr (0, [.ref 2, .ref 3, .ref 4, .int (skn s), .int (sdr s), .int (swa s), .int (sbu s), .int (sni s)])), (2, .inl (false, 6, sce s)), (3, .inl (false, 6, she s)), (4, .inl (false, 6, stu s)), (26, .inr (5, [.ref 27, .int y0, .int y1, .int y2, .int y3, .int y4, .int y5])), (27, .inr (0, [.ref 28, .ref 29, .ref 30, .int (skn ((yr s x m).1)), .int (sdr ((yr s x m).1)), .int (swa ((yr s x m).1)), .int (sbu ((yr s x m).1)), .int (sni ((yr s x m).1))])), (28, .inl (false, 6, sce ((yr s x m).1))), (29, .inl (false, 6, she ((yr s x m).1))), (30, .inl (false, 6, stu ((yr s x m).1)))]) _
      exact E_iretf dX6_year_184 rfl rfl rfl rfl
    · intro i hi ih l7 l8 l9
      have hX := yr_lt (s := s) (seed := x) (by omega) i
      have hY : yX (yr s x i).2 < 65537 := Nat.mod_lt _ (by decide)
      generalize hy : yX (yr s x i).2 = y at hY
      have eS : (yr s x (i + 1)).1 = yN (yr s x i).1 y := by rw [← hy]; rfl
      have eX : (yr s x (i + 1)).2 = y := by rw [← hy]; rfl
      rw [eS, eX] at ih
      generalize (yr s x i).1 = z at ih ⊢
      have hk : y / 6 % 8 = 0 ∨ y / 6 % 8 = 1 ∨ y / 6 % 8 = 2 ∨ y / 6 % 8 = 3 ∨ y / 6 % 8 = 4 ∨ 5 ≤ y / 6 % 8 := by omega
      rcases hk with hk | hk | hk | hk | hk | hk
      · refine E_iload dX6_year_63 rfl ?_
        refine E_iload_n dX6_year_65 rfl ?_
        refine E_icmp_ge (tgt := 147) dX6_year_66 (by decide) (fun c => absurd c (nI_ge hi (by omega))) (fun _ => ?_)
        refine E_bipush (v := 75) dX6_year_69 (by decide) ?_
        refine E_iload dX6_year_71 rfl ?_
        refine E_imul dX6_year_73 ?_
        refine E_bipush (v := 74) dX6_year_74 (by decide) ?_
        refine E_iadd dX6_year_76 ?_
        refine E_ldc dX6_year_77 qX6_254 ?_
        refine E_irem dX6_year_79 (by decide) ?_
        refine E_eqi (y := nI y) (by rw [← hy]; exact yX_m hX) ?_
        refine E_istore (l2 := [.ref 0, .int (nI x), .int (nI m), .int 0, .ref 27, .int (nI y), .int (nI i), l7, l8, l9]) dX6_year_80 (by decide) rfl ?_
        refine E_iload dX6_year_82 rfl ?_
        refine E_bipush (v := 6) dX6_year_84 (by decide) ?_
        refine E_callS (As := [.int (nI y), .int 6]) (l' := [.int (nI y), .int 6, .null]) (st := []) dX6_year_86 kX6_255 sJ9_floorMod_7cf53 MJ9_floorMod_7cf53 rfl rfl (Nat.le_of_ble_eq_true rfl) (FC.use (c_fmod6 (d + 5) y (by omega)) rfl (L2 := [(0, .inr (6, [.ref 1, .ref 5, .ref 7, .ref 10, .ref 18, .ref 26, .ref 31, .ref 35, .ref 37, .int (nI rk)])), (1, .inr (0, [.ref 2, .ref 3, .ref 4, .int (skn s), .int (sdr s), .int (swa s), .int (sbu s), .int (sni s)])), (2, .inl (false, 6, sce s)), (3, .inl (false, 6, she s)), (4, .inl (false, 6, stu s)), (26, .inr (5, [.ref 27, .int y0, .int y1, .int y2, .int y3, .int y4, .int y5])), (27, .inr (0, [.ref 28, .ref 29, .ref 30, .int (skn z), .int (sdr z), .int (swa z), .int (sbu z), .int (sni z)])), (28, .inl (false, 6, sce z)), (29, .inl (false, 6, she z)), (30, .inl (false, 6, stu z))]) rfl) (Nat.le_of_ble_eq_true rfl) (fun _ _ hq9 => E_fgo ?_ hq9)
        show E _ _ 89 [.ref 0, .int (nI x), .int (nI m), .int 0, .ref 27, .int (nI y), .int (nI i), l7, l8, l9] [.int (nI (y % 6))] (hov hp [(0, .inr (6, [.ref 1, .ref 5, .ref 7, .ref 10, .ref 18, .ref 26, .ref 31, .ref 35, .ref 37, .int (nI rk)])), (1, .inr (0, [.ref 2, .ref 3, .ref 4, .int (skn s), .int (sdr s), .int (swa s), .int (sbu s), .int (sni s)])), (2, .inl (false, 6, sce s)), (3, .inl (false, 6, she s)), (4, .inl (false, 6, stu s)), (26, .inr (5, [.ref 27, .int y0, .int y1, .int y2, .int y3, .int y4, .int y5])), (27, .inr (0, [.ref 28, .ref 29, .ref 30, .int (skn z), .int (sdr z), .int (swa z), .int (sbu z), .int (sni z)])), (28, .inl (false, 6, sce z)), (29, .inl (false, 6, she z)), (30, .inl (false, 6, stu z))]) _
        refine E_istore (l2 := [.ref 0, .int (nI x), .int (nI m), .int 0, .ref 27, .int (nI y), .int (nI i), .int (nI (y % 6)), l8, l9]) dX6_year_89 (by decide) rfl ?_
        refine E_iload dX6_year_91 rfl ?_
        refine E_bipush (v := 6) dX6_year_93 (by decide) ?_
        refine E_idiv dX6_year_95 (by decide) ?_
        refine E_eqi (y := nI (y / 6)) (nI_d (by omega) (by decide) (by decide)) ?_
        refine E_bipush (v := 8) dX6_year_96 (by decide) ?_
        refine E_irem dX6_year_98 (by decide) ?_
        refine E_eqi (y := nI (y / 6 % 8)) (nI_r (by omega) (by decide) (by decide)) ?_
        refine E_iconst (v := 5) dX6_year_99 (by decide) ?_
        refine E_Mmin dX6_year_100 kX6_258 (Nat.le_of_ble_eq_true rfl) ?_
        refine E_eqi (y := 0) (by rw [hk]; decide) ?_
        refine E_istore (l2 := [.ref 0, .int (nI x), .int (nI m), .int 0, .ref 27, .int (nI y), .int (nI i), .int (nI (y % 6)), .int 0, l9]) dX6_year_103 (by decide) rfl ?_
        refine E_iload dX6_year_105 rfl ?_
        refine E_bipush (v := 48) dX6_year_107 (by decide) ?_
        refine E_idiv dX6_year_109 (by decide) ?_
        refine E_eqi (y := nI (y / 48)) (nI_d (by omega) (by decide) (by decide)) ?_
        refine E_bipush (v := 25) dX6_year_110 (by decide) ?_
        refine E_irem dX6_year_112 (by decide) ?_
        refine E_eqi (y := nI (y / 48 % 25)) (nI_r (by omega) (by decide) (by decide)) ?_
        refine E_istore (l2 := [.ref 0, .int (nI x), .int (nI m), .int 0, .ref 27, .int (nI y), .int (nI i), .int (nI (y % 6)), .int 0, .int (nI (y / 48 % 25))]) dX6_year_113 (by decide) rfl ?_
        refine E_aload dX6_year_115 rfl ?_
        refine E_iload dX6_year_117 rfl ?_
        refine E_iload dX6_year_119 rfl ?_
        refine E_iload dX6_year_121 rfl ?_
        refine E_callV (As := [.int 0, .int (nI (y % 6)), .int (nI (y / 48 % 25))]) (l' := [.ref 27, .int 0, .int (nI (y % 6)), .int (nI (y / 48 % 25))]) (st := []) dX6_year_123 kX6_261 iX0_reasonAgainst vX0_reasonAgainst (by decide) rfl rfl MX0_reasonAgainst rfl rfl (Nat.le_of_ble_eq_true rfl) (FC.use (c_reason_0 (d + 4) z (y % 6) (by omega) (nI (y / 48 % 25))) rfl (L2 := [(0, .inr (6, [.ref 1, .ref 5, .ref 7, .ref 10, .ref 18, .ref 26, .ref 31, .ref 35, .ref 37, .int (nI rk)])), (1, .inr (0, [.ref 2, .ref 3, .ref 4, .int (skn s), .int (sdr s), .int (swa s), .int (sbu s), .int (sni s)])), (2, .inl (false, 6, sce s)), (3, .inl (false, 6, she s)), (4, .inl (false, 6, stu s)), (26, .inr (5, [.ref 27, .int y0, .int y1, .int y2, .int y3, .int y4, .int y5])), (27, .inr (0, [.ref 28, .ref 29, .ref 30, .int (skn z), .int (sdr z), .int (swa z), .int (sbu z), .int (sni z)])), (28, .inl (false, 6, sce z)), (29, .inl (false, 6, she z)), (30, .inl (false, 6, stu z))]) rfl) (Nat.le_of_ble_eq_true rfl) (fun _ _ hq9 => E_fgo ?_ hq9)
        show E _ _ 126 [.ref 0, .int (nI x), .int (nI m), .int 0, .ref 27, .int (nI y), .int (nI i), .int (nI (y % 6)), .int 0, .int (nI (y / 48 % 25))] [.int (rsn z 0 (y % 6) (nI (y / 48 % 25)))] (hov hp [(0, .inr (6, [.ref 1, .ref 5, .ref 7, .ref 10, .ref 18, .ref 26, .ref 31, .ref 35, .ref 37, .int (nI rk)])), (1, .inr (0, [.ref 2, .ref 3, .ref 4, .int (skn s), .int (sdr s), .int (swa s), .int (sbu s), .int (sni s)])), (2, .inl (false, 6, sce s)), (3, .inl (false, 6, she s)), (4, .inl (false, 6, stu s)), (26, .inr (5, [.ref 27, .int y0, .int y1, .int y2, .int y3, .int y4, .int y5])), (27, .inr (0, [.ref 28, .ref 29, .ref 30, .int (skn z), .int (sdr z), .int (swa z), .int (sbu z), .int (sni z)])), (28, .inl (false, 6, sce z)), (29, .inl (false, 6, she z)), (30, .inl (false, 6, stu z))]) _
        refine E_if_ne (tgt := 141) dX6_year_126 (by decide) (fun c126 => ?_) (fun c126 => ?_)
        · refine E_iinc (y := nI (i + 1)) (l2 := [.ref 0, .int (nI x), .int (nI m), .int 0, .ref 27, .int (nI y), .int (nI (i + 1)), .int (nI (y % 6)), .int 0, .int (nI (y / 48 % 25))]) dX6_year_141 rfl (nI_1 _) (by decide) rfl ?_
          refine E_goto (tgt := 63) dX6_year_144 (by decide) ?_
          have e9 := ih (.int (nI (y % 6))) (.int 0) (.int (nI (y / 48 % 25)))
          rw [show yN z y = z from by rw [yN, show yK y = 0 from (by rw [yK, hk]; rfl), if_neg c126]] at e9
          exact e9
        · refine E_aload dX6_year_129 rfl ?_
          refine E_iload dX6_year_131 rfl ?_
          refine E_iload dX6_year_133 rfl ?_
          refine E_iload dX6_year_135 rfl ?_
          refine E_callV (As := [.int 0, .int (nI (y % 6)), .int (nI (y / 48 % 25))]) (l' := [.ref 27, .int 0, .int (nI (y % 6)), .int (nI (y / 48 % 25))]) (st := []) dX6_year_137 kX6_264 iX0_perform vX0_perform (by decide) rfl rfl MX0_perform rfl rfl (Nat.le_of_ble_eq_true rfl) (FC.use (c_perform_0 (d + 1) z (y % 6) (by omega) (nI (y / 48 % 25))) rfl (L2 := [(0, .inr (6, [.ref 1, .ref 5, .ref 7, .ref 10, .ref 18, .ref 26, .ref 31, .ref 35, .ref 37, .int (nI rk)])), (1, .inr (0, [.ref 2, .ref 3, .ref 4, .int (skn s), .int (sdr s), .int (swa s), .int (sbu s), .int (sni s)])), (2, .inl (false, 6, sce s)), (3, .inl (false, 6, she s)), (4, .inl (false, 6, stu s)), (26, .inr (5, [.ref 27, .int y0, .int y1, .int y2, .int y3, .int y4, .int y5])), (27, .inr (0, [.ref 28, .ref 29, .ref 30, .int (skn (prS z 0 (y % 6) (nI (y / 48 % 25)))), .int (sdr (prS z 0 (y % 6) (nI (y / 48 % 25)))), .int (swa (prS z 0 (y % 6) (nI (y / 48 % 25)))), .int (sbu (prS z 0 (y % 6) (nI (y / 48 % 25)))), .int (sni (prS z 0 (y % 6) (nI (y / 48 % 25))))])), (28, .inl (false, 6, sce (prS z 0 (y % 6) (nI (y / 48 % 25))))), (29, .inl (false, 6, she (prS z 0 (y % 6) (nI (y / 48 % 25))))), (30, .inl (false, 6, stu (prS z 0 (y % 6) (nI (y / 48 % 25)))))]) rfl) (Nat.le_of_ble_eq_true rfl) (fun _ _ hq9 => E_fgo ?_ hq9)
          show E _ _ 140 [.ref 0, .int (nI x), .int (nI m), .int 0, .ref 27, .int (nI y), .int (nI i), .int (nI (y % 6)), .int 0, .int (nI (y / 48 % 25))] [.int (prF z 0)] (hov hp [(0, .inr (6, [.ref 1, .ref 5, .ref 7, .ref 10, .ref 18, .ref 26, .ref 31, .ref 35, .ref 37, .int (nI rk)])), (1, .inr (0, [.ref 2, .ref 3, .ref 4, .int (skn s), .int (sdr s), .int (swa s), .int (sbu s), .int (sni s)])), (2, .inl (false, 6, sce s)), (3, .inl (false, 6, she s)), (4, .inl (false, 6, stu s)), (26, .inr (5, [.ref 27, .int y0, .int y1, .int y2, .int y3, .int y4, .int y5])), (27, .inr (0, [.ref 28, .ref 29, .ref 30, .int (skn (prS z 0 (y % 6) (nI (y / 48 % 25)))), .int (sdr (prS z 0 (y % 6) (nI (y / 48 % 25)))), .int (swa (prS z 0 (y % 6) (nI (y / 48 % 25)))), .int (sbu (prS z 0 (y % 6) (nI (y / 48 % 25)))), .int (sni (prS z 0 (y % 6) (nI (y / 48 % 25))))])), (28, .inl (false, 6, sce (prS z 0 (y % 6) (nI (y / 48 % 25))))), (29, .inl (false, 6, she (prS z 0 (y % 6) (nI (y / 48 % 25))))), (30, .inl (false, 6, stu (prS z 0 (y % 6) (nI (y / 48 % 25)))))]) _
          refine E_pop dX6_year_140 rfl ?_
          refine E_iinc (y := nI (i + 1)) (l2 := [.ref 0, .int (nI x), .int (nI m), .int 0, .ref 27, .int (nI y), .int (nI (i + 1)), .int (nI (y % 6)), .int 0, .int (nI (y / 48 % 25))]) dX6_year_141 rfl (nI_1 _) (by decide) rfl ?_
          refine E_goto (tgt := 63) dX6_year_144 (by decide) ?_
          have e9 := ih (.int (nI (y % 6))) (.int 0) (.int (nI (y / 48 % 25)))
          rw [show yN z y = prS z 0 (y % 6) (nI (y / 48 % 25)) from by rw [yN, show yK y = 0 from (by rw [yK, hk]; rfl), if_pos c126]] at e9
          exact e9
      · refine E_iload dX6_year_63 rfl ?_
        refine E_iload_n dX6_year_65 rfl ?_
        refine E_icmp_ge (tgt := 147) dX6_year_66 (by decide) (fun c => absurd c (nI_ge hi (by omega))) (fun _ => ?_)
        refine E_bipush (v := 75) dX6_year_69 (by decide) ?_
        refine E_iload dX6_year_71 rfl ?_
        refine E_imul dX6_year_73 ?_
        refine E_bipush (v := 74) dX6_year_74 (by decide) ?_
        refine E_iadd dX6_year_76 ?_
        refine E_ldc dX6_year_77 qX6_254 ?_
        refine E_irem dX6_year_79 (by decide) ?_
        refine E_eqi (y := nI y) (by rw [← hy]; exact yX_m hX) ?_
        refine E_istore (l2 := [.ref 0, .int (nI x), .int (nI m), .int 0, .ref 27, .int (nI y), .int (nI i), l7, l8, l9]) dX6_year_80 (by decide) rfl ?_
        refine E_iload dX6_year_82 rfl ?_
        refine E_bipush (v := 6) dX6_year_84 (by decide) ?_
        refine E_callS (As := [.int (nI y), .int 6]) (l' := [.int (nI y), .int 6, .null]) (st := []) dX6_year_86 kX6_255 sJ9_floorMod_7cf53 MJ9_floorMod_7cf53 rfl rfl (Nat.le_of_ble_eq_true rfl) (FC.use (c_fmod6 (d + 5) y (by omega)) rfl (L2 := [(0, .inr (6, [.ref 1, .ref 5, .ref 7, .ref 10, .ref 18, .ref 26, .ref 31, .ref 35, .ref 37, .int (nI rk)])), (1, .inr (0, [.ref 2, .ref 3, .ref 4, .int (skn s), .int (sdr s), .int (swa s), .int (sbu s), .int (sni s)])), (2, .inl (false, 6, sce s)), (3, .inl (false, 6, she s)), (4, .inl (false, 6, stu s)), (26, .inr (5, [.ref 27, .int y0, .int y1, .int y2, .int y3, .int y4, .int y5])), (27, .inr (0, [.ref 28, .ref 29, .ref 30, .int (skn z), .int (sdr z), .int (swa z), .int (sbu z), .int (sni z)])), (28, .inl (false, 6, sce z)), (29, .inl (false, 6, she z)), (30, .inl (false, 6, stu z))]) rfl) (Nat.le_of_ble_eq_true rfl) (fun _ _ hq9 => E_fgo ?_ hq9)
        show E _ _ 89 [.ref 0, .int (nI x), .int (nI m), .int 0, .ref 27, .int (nI y), .int (nI i), l7, l8, l9] [.int (nI (y % 6))] (hov hp [(0, .inr (6, [.ref 1, .ref 5, .ref 7, .ref 10, .ref 18, .ref 26, .ref 31, .ref 35, .ref 37, .int (nI rk)])), (1, .inr (0, [.ref 2, .ref 3, .ref 4, .int (skn s), .int (sdr s), .int (swa s), .int (sbu s), .int (sni s)])), (2, .inl (false, 6, sce s)), (3, .inl (false, 6, she s)), (4, .inl (false, 6, stu s)), (26, .inr (5, [.ref 27, .int y0, .int y1, .int y2, .int y3, .int y4, .int y5])), (27, .inr (0, [.ref 28, .ref 29, .ref 30, .int (skn z), .int (sdr z), .int (swa z), .int (sbu z), .int (sni z)])), (28, .inl (false, 6, sce z)), (29, .inl (false, 6, she z)), (30, .inl (false, 6, stu z))]) _
        refine E_istore (l2 := [.ref 0, .int (nI x), .int (nI m), .int 0, .ref 27, .int (nI y), .int (nI i), .int (nI (y % 6)), l8, l9]) dX6_year_89 (by decide) rfl ?_
        refine E_iload dX6_year_91 rfl ?_
        refine E_bipush (v := 6) dX6_year_93 (by decide) ?_
        refine E_idiv dX6_year_95 (by decide) ?_
        refine E_eqi (y := nI (y / 6)) (nI_d (by omega) (by decide) (by decide)) ?_
        refine E_bipush (v := 8) dX6_year_96 (by decide) ?_
        refine E_irem dX6_year_98 (by decide) ?_
        refine E_eqi (y := nI (y / 6 % 8)) (nI_r (by omega) (by decide) (by decide)) ?_
        refine E_iconst (v := 5) dX6_year_99 (by decide) ?_
        refine E_Mmin dX6_year_100 kX6_258 (Nat.le_of_ble_eq_true rfl) ?_
        refine E_eqi (y := 1) (by rw [hk]; decide) ?_
        refine E_istore (l2 := [.ref 0, .int (nI x), .int (nI m), .int 0, .ref 27, .int (nI y), .int (nI i), .int (nI (y % 6)), .int 1, l9]) dX6_year_103 (by decide) rfl ?_
        refine E_iload dX6_year_105 rfl ?_
        refine E_bipush (v := 48) dX6_year_107 (by decide) ?_
        refine E_idiv dX6_year_109 (by decide) ?_
        refine E_eqi (y := nI (y / 48)) (nI_d (by omega) (by decide) (by decide)) ?_
        refine E_bipush (v := 25) dX6_year_110 (by decide) ?_
        refine E_irem dX6_year_112 (by decide) ?_
        refine E_eqi (y := nI (y / 48 % 25)) (nI_r (by omega) (by decide) (by decide)) ?_
        refine E_istore (l2 := [.ref 0, .int (nI x), .int (nI m), .int 0, .ref 27, .int (nI y), .int (nI i), .int (nI (y % 6)), .int 1, .int (nI (y / 48 % 25))]) dX6_year_113 (by decide) rfl ?_
        refine E_aload dX6_year_115 rfl ?_
        refine E_iload dX6_year_117 rfl ?_
        refine E_iload dX6_year_119 rfl ?_
        refine E_iload dX6_year_121 rfl ?_
        refine E_callV (As := [.int 1, .int (nI (y % 6)), .int (nI (y / 48 % 25))]) (l' := [.ref 27, .int 1, .int (nI (y % 6)), .int (nI (y / 48 % 25))]) (st := []) dX6_year_123 kX6_261 iX0_reasonAgainst vX0_reasonAgainst (by decide) rfl rfl MX0_reasonAgainst rfl rfl (Nat.le_of_ble_eq_true rfl) (FC.use (c_reason_1 (d + 4) z (y % 6) (by omega) (nI (y / 48 % 25))) rfl (L2 := [(0, .inr (6, [.ref 1, .ref 5, .ref 7, .ref 10, .ref 18, .ref 26, .ref 31, .ref 35, .ref 37, .int (nI rk)])), (1, .inr (0, [.ref 2, .ref 3, .ref 4, .int (skn s), .int (sdr s), .int (swa s), .int (sbu s), .int (sni s)])), (2, .inl (false, 6, sce s)), (3, .inl (false, 6, she s)), (4, .inl (false, 6, stu s)), (26, .inr (5, [.ref 27, .int y0, .int y1, .int y2, .int y3, .int y4, .int y5])), (27, .inr (0, [.ref 28, .ref 29, .ref 30, .int (skn z), .int (sdr z), .int (swa z), .int (sbu z), .int (sni z)])), (28, .inl (false, 6, sce z)), (29, .inl (false, 6, she z)), (30, .inl (false, 6, stu z))]) rfl) (Nat.le_of_ble_eq_true rfl) (fun _ _ hq9 => E_fgo ?_ hq9)
        show E _ _ 126 [.ref 0, .int (nI x), .int (nI m), .int 0, .ref 27, .int (nI y), .int (nI i), .int (nI (y % 6)), .int 1, .int (nI (y / 48 % 25))] [.int (rsn z 1 (y % 6) (nI (y / 48 % 25)))] (hov hp [(0, .inr (6, [.ref 1, .ref 5, .ref 7, .ref 10, .ref 18, .ref 26, .ref 31, .ref 35, .ref 37, .int (nI rk)])), (1, .inr (0, [.ref 2, .ref 3, .ref 4, .int (skn s), .int (sdr s), .int (swa s), .int (sbu s), .int (sni s)])), (2, .inl (false, 6, sce s)), (3, .inl (false, 6, she s)), (4, .inl (false, 6, stu s)), (26, .inr (5, [.ref 27, .int y0, .int y1, .int y2, .int y3, .int y4, .int y5])), (27, .inr (0, [.ref 28, .ref 29, .ref 30, .int (skn z), .int (sdr z), .int (swa z), .int (sbu z), .int (sni z)])), (28, .inl (false, 6, sce z)), (29, .inl (false, 6, she z)), (30, .inl (false, 6, stu z))]) _
        refine E_if_ne (tgt := 141) dX6_year_126 (by decide) (fun c126 => ?_) (fun c126 => ?_)
        · refine E_iinc (y := nI (i + 1)) (l2 := [.ref 0, .int (nI x), .int (nI m), .int 0, .ref 27, .int (nI y), .int (nI (i + 1)), .int (nI (y % 6)), .int 1, .int (nI (y / 48 % 25))]) dX6_year_141 rfl (nI_1 _) (by decide) rfl ?_
          refine E_goto (tgt := 63) dX6_year_144 (by decide) ?_
          have e9 := ih (.int (nI (y % 6))) (.int 1) (.int (nI (y / 48 % 25)))
          rw [show yN z y = z from by rw [yN, show yK y = 1 from (by rw [yK, hk]; rfl), if_neg c126]] at e9
          exact e9
        · refine E_aload dX6_year_129 rfl ?_
          refine E_iload dX6_year_131 rfl ?_
          refine E_iload dX6_year_133 rfl ?_
          refine E_iload dX6_year_135 rfl ?_
          refine E_callV (As := [.int 1, .int (nI (y % 6)), .int (nI (y / 48 % 25))]) (l' := [.ref 27, .int 1, .int (nI (y % 6)), .int (nI (y / 48 % 25))]) (st := []) dX6_year_137 kX6_264 iX0_perform vX0_perform (by decide) rfl rfl MX0_perform rfl rfl (Nat.le_of_ble_eq_true rfl) (FC.use (c_perform_1 (d + 1) z (y % 6) (by omega) (nI (y / 48 % 25))) rfl (L2 := [(0, .inr (6, [.ref 1, .ref 5, .ref 7, .ref 10, .ref 18, .ref 26, .ref 31, .ref 35, .ref 37, .int (nI rk)])), (1, .inr (0, [.ref 2, .ref 3, .ref 4, .int (skn s), .int (sdr s), .int (swa s), .int (sbu s), .int (sni s)])), (2, .inl (false, 6, sce s)), (3, .inl (false, 6, she s)), (4, .inl (false, 6, stu s)), (26, .inr (5, [.ref 27, .int y0, .int y1, .int y2, .int y3, .int y4, .int y5])), (27, .inr (0, [.ref 28, .ref 29, .ref 30, .int (skn (prS z 1 (y % 6) (nI (y / 48 % 25)))), .int (sdr (prS z 1 (y % 6) (nI (y / 48 % 25)))), .int (swa (prS z 1 (y % 6) (nI (y / 48 % 25)))), .int (sbu (prS z 1 (y % 6) (nI (y / 48 % 25)))), .int (sni (prS z 1 (y % 6) (nI (y / 48 % 25))))])), (28, .inl (false, 6, sce (prS z 1 (y % 6) (nI (y / 48 % 25))))), (29, .inl (false, 6, she (prS z 1 (y % 6) (nI (y / 48 % 25))))), (30, .inl (false, 6, stu (prS z 1 (y % 6) (nI (y / 48 % 25)))))]) rfl) (Nat.le_of_ble_eq_true rfl) (fun _ _ hq9 => E_fgo ?_ hq9)
          show E _ _ 140 [.ref 0, .int (nI x), .int (nI m), .int 0, .ref 27, .int (nI y), .int (nI i), .int (nI (y % 6)), .int 1, .int (nI (y / 48 % 25))] [.int (prF z 1)] (hov hp [(0, .inr (6, [.ref 1, .ref 5, .ref 7, .ref 10, .ref 18, .ref 26, .ref 31, .ref 35, .ref 37, .int (nI rk)])), (1, .inr (0, [.ref 2, .ref 3, .ref 4, .int (skn s), .int (sdr s), .int (swa s), .int (sbu s), .int (sni s)])), (2, .inl (false, 6, sce s)), (3, .inl (false, 6, she s)), (4, .inl (false, 6, stu s)), (26, .inr (5, [.ref 27, .int y0, .int y1, .int y2, .int y3, .int y4, .int y5])), (27, .inr (0, [.ref 28, .ref 29, .ref 30, .int (skn (prS z 1 (y % 6) (nI (y / 48 % 25)))), .int (sdr (prS z 1 (y % 6) (nI (y / 48 % 25)))), .int (swa (prS z 1 (y % 6) (nI (y / 48 % 25)))), .int (sbu (prS z 1 (y % 6) (nI (y / 48 % 25)))), .int (sni (prS z 1 (y % 6) (nI (y / 48 % 25))))])), (28, .inl (false, 6, sce (prS z 1 (y % 6) (nI (y / 48 % 25))))), (29, .inl (false, 6, she (prS z 1 (y % 6) (nI (y / 48 % 25))))), (30, .inl (false, 6, stu (prS z 1 (y % 6) (nI (y / 48 % 25)))))]) _
          refine E_pop dX6_year_140 rfl ?_
          refine E_iinc (y := nI (i + 1)) (l2 := [.ref 0, .int (nI x), .int (nI m), .int 0, .ref 27, .int (nI y), .int (nI (i + 1)), .int (nI (y % 6)), .int 1, .int (nI (y / 48 % 25))]) dX6_year_141 rfl (nI_1 _) (by decide) rfl ?_
          refine E_goto (tgt := 63) dX6_year_144 (by decide) ?_
          have e9 := ih (.int (nI (y % 6))) (.int 1) (.int (nI (y / 48 % 25)))
          rw [show yN z y = prS z 1 (y % 6) (nI (y / 48 % 25)) from by rw [yN, show yK y = 1 from (by rw [yK, hk]; rfl), if_pos c126]] at e9
          exact e9
      · refine E_iload dX6_year_63 rfl ?_
        refine E_iload_n dX6_year_65 rfl ?_
        refine E_icmp_ge (tgt := 147) dX6_year_66 (by decide) (fun c => absurd c (nI_ge hi (by omega))) (fun _ => ?_)
        refine E_bipush (v := 75) dX6_year_69 (by decide) ?_
        refine E_iload dX6_year_71 rfl ?_
        refine E_imul dX6_year_73 ?_
        refine E_bipush (v := 74) dX6_year_74 (by decide) ?_
        refine E_iadd dX6_year_76 ?_
        refine E_ldc dX6_year_77 qX6_254 ?_
        refine E_irem dX6_year_79 (by decide) ?_
        refine E_eqi (y := nI y) (by rw [← hy]; exact yX_m hX) ?_
        refine E_istore (l2 := [.ref 0, .int (nI x), .int (nI m), .int 0, .ref 27, .int (nI y), .int (nI i), l7, l8, l9]) dX6_year_80 (by decide) rfl ?_
        refine E_iload dX6_year_82 rfl ?_
        refine E_bipush (v := 6) dX6_year_84 (by decide) ?_
        refine E_callS (As := [.int (nI y), .int 6]) (l' := [.int (nI y), .int 6, .null]) (st := []) dX6_year_86 kX6_255 sJ9_floorMod_7cf53 MJ9_floorMod_7cf53 rfl rfl (Nat.le_of_ble_eq_true rfl) (FC.use (c_fmod6 (d + 5) y (by omega)) rfl (L2 := [(0, .inr (6, [.ref 1, .ref 5, .ref 7, .ref 10, .ref 18, .ref 26, .ref 31, .ref 35, .ref 37, .int (nI rk)])), (1, .inr (0, [.ref 2, .ref 3, .ref 4, .int (skn s), .int (sdr s), .int (swa s), .int (sbu s), .int (sni s)])), (2, .inl (false, 6, sce s)), (3, .inl (false, 6, she s)), (4, .inl (false, 6, stu s)), (26, .inr (5, [.ref 27, .int y0, .int y1, .int y2, .int y3, .int y4, .int y5])), (27, .inr (0, [.ref 28, .ref 29, .ref 30, .int (skn z), .int (sdr z), .int (swa z), .int (sbu z), .int (sni z)])), (28, .inl (false, 6, sce z)), (29, .inl (false, 6, she z)), (30, .inl (false, 6, stu z))]) rfl) (Nat.le_of_ble_eq_true rfl) (fun _ _ hq9 => E_fgo ?_ hq9)
        show E _ _ 89 [.ref 0, .int (nI x), .int (nI m), .int 0, .ref 27, .int (nI y), .int (nI i), l7, l8, l9] [.int (nI (y % 6))] (hov hp [(0, .inr (6, [.ref 1, .ref 5, .ref 7, .ref 10, .ref 18, .ref 26, .ref 31, .ref 35, .ref 37, .int (nI rk)])), (1, .inr (0, [.ref 2, .ref 3, .ref 4, .int (skn s), .int (sdr s), .int (swa s), .int (sbu s), .int (sni s)])), (2, .inl (false, 6, sce s)), (3, .inl (false, 6, she s)), (4, .inl (false, 6, stu s)), (26, .inr (5, [.ref 27, .int y0, .int y1, .int y2, .int y3, .int y4, .int y5])), (27, .inr (0, [.ref 28, .ref 29, .ref 30, .int (skn z), .int (sdr z), .int (swa z), .int (sbu z), .int (sni z)])), (28, .inl (false, 6, sce z)), (29, .inl (false, 6, she z)), (30, .inl (false, 6, stu z))]) _
        refine E_istore (l2 := [.ref 0, .int (nI x), .int (nI m), .int 0, .ref 27, .int (nI y), .int (nI i), .int (nI (y % 6)), l8, l9]) dX6_year_89 (by decide) rfl ?_
        refine E_iload dX6_year_91 rfl ?_
        refine E_bipush (v := 6) dX6_year_93 (by decide) ?_
        refine E_idiv dX6_year_95 (by decide) ?_
        refine E_eqi (y := nI (y / 6)) (nI_d (by omega) (by decide) (by decide)) ?_
        refine E_bipush (v := 8) dX6_year_96 (by decide) ?_
        refine E_irem dX6_year_98 (by decide) ?_
        refine E_eqi (y := nI (y / 6 % 8)) (nI_r (by omega) (by decide) (by decide)) ?_
        refine E_iconst (v := 5) dX6_year_99 (by decide) ?_
        refine E_Mmin dX6_year_100 kX6_258 (Nat.le_of_ble_eq_true rfl) ?_
        refine E_eqi (y := 2) (by rw [hk]; decide) ?_
        refine E_istore (l2 := [.ref 0, .int (nI x), .int (nI m), .int 0, .ref 27, .int (nI y), .int (nI i), .int (nI (y % 6)), .int 2, l9]) dX6_year_103 (by decide) rfl ?_
        refine E_iload dX6_year_105 rfl ?_
        refine E_bipush (v := 48) dX6_year_107 (by decide) ?_
        refine E_idiv dX6_year_109 (by decide) ?_
        refine E_eqi (y := nI (y / 48)) (nI_d (by omega) (by decide) (by decide)) ?_
        refine E_bipush (v := 25) dX6_year_110 (by decide) ?_
        refine E_irem dX6_year_112 (by decide) ?_
        refine E_eqi (y := nI (y / 48 % 25)) (nI_r (by omega) (by decide) (by decide)) ?_
        refine E_istore (l2 := [.ref 0, .int (nI x), .int (nI m), .int 0, .ref 27, .int (nI y), .int (nI i), .int (nI (y % 6)), .int 2, .int (nI (y / 48 % 25))]) dX6_year_113 (by decide) rfl ?_
        refine E_aload dX6_year_115 rfl ?_
        refine E_iload dX6_year_117 rfl ?_
        refine E_iload dX6_year_119 rfl ?_
        refine E_iload dX6_year_121 rfl ?_
        refine E_callV (As := [.int 2, .int (nI (y % 6)), .int (nI (y / 48 % 25))]) (l' := [.ref 27, .int 2, .int (nI (y % 6)), .int (nI (y / 48 % 25))]) (st := []) dX6_year_123 kX6_261 iX0_reasonAgainst vX0_reasonAgainst (by decide) rfl rfl MX0_reasonAgainst rfl rfl (Nat.le_of_ble_eq_true rfl) (FC.use (c_reason_2 (d + 4) z (y % 6) (by omega) (nI (y / 48 % 25))) rfl (L2 := [(0, .inr (6, [.ref 1, .ref 5, .ref 7, .ref 10, .ref 18, .ref 26, .ref 31, .ref 35, .ref 37, .int (nI rk)])), (1, .inr (0, [.ref 2, .ref 3, .ref 4, .int (skn s), .int (sdr s), .int (swa s), .int (sbu s), .int (sni s)])), (2, .inl (false, 6, sce s)), (3, .inl (false, 6, she s)), (4, .inl (false, 6, stu s)), (26, .inr (5, [.ref 27, .int y0, .int y1, .int y2, .int y3, .int y4, .int y5])), (27, .inr (0, [.ref 28, .ref 29, .ref 30, .int (skn z), .int (sdr z), .int (swa z), .int (sbu z), .int (sni z)])), (28, .inl (false, 6, sce z)), (29, .inl (false, 6, she z)), (30, .inl (false, 6, stu z))]) rfl) (Nat.le_of_ble_eq_true rfl) (fun _ _ hq9 => E_fgo ?_ hq9)
        show E _ _ 126 [.ref 0, .int (nI x), .int (nI m), .int 0, .ref 27, .int (nI y), .int (nI i), .int (nI (y % 6)), .int 2, .int (nI (y / 48 % 25))] [.int (rsn z 2 (y % 6) (nI (y / 48 % 25)))] (hov hp [(0, .inr (6, [.ref 1, .ref 5, .ref 7, .ref 10, .ref 18, .ref 26, .ref 31, .ref 35, .ref 37, .int (nI rk)])), (1, .inr (0, [.ref 2, .ref 3, .ref 4, .int (skn s), .int (sdr s), .int (swa s), .int (sbu s), .int (sni s)])), (2, .inl (false, 6, sce s)), (3, .inl (false, 6, she s)), (4, .inl (false, 6, stu s)), (26, .inr (5, [.ref 27, .int y0, .int y1, .int y2, .int y3, .int y4, .int y5])), (27, .inr (0, [.ref 28, .ref 29, .ref 30, .int (skn z), .int (sdr z), .int (swa z), .int (sbu z), .int (sni z)])), (28, .inl (false, 6, sce z)), (29, .inl (false, 6, she z)), (30, .inl (false, 6, stu z))]) _
        refine E_if_ne (tgt := 141) dX6_year_126 (by decide) (fun c126 => ?_) (fun c126 => ?_)
        · refine E_iinc (y := nI (i + 1)) (l2 := [.ref 0, .int (nI x), .int (nI m), .int 0, .ref 27, .int (nI y), .int (nI (i + 1)), .int (nI (y % 6)), .int 2, .int (nI (y / 48 % 25))]) dX6_year_141 rfl (nI_1 _) (by decide) rfl ?_
          refine E_goto (tgt := 63) dX6_year_144 (by decide) ?_
          have e9 := ih (.int (nI (y % 6))) (.int 2) (.int (nI (y / 48 % 25)))
          rw [show yN z y = z from by rw [yN, show yK y = 2 from (by rw [yK, hk]; rfl), if_neg c126]] at e9
          exact e9
        · refine E_aload dX6_year_129 rfl ?_
          refine E_iload dX6_year_131 rfl ?_
          refine E_iload dX6_year_133 rfl ?_
          refine E_iload dX6_year_135 rfl ?_
          refine E_callV (As := [.int 2, .int (nI (y % 6)), .int (nI (y / 48 % 25))]) (l' := [.ref 27, .int 2, .int (nI (y % 6)), .int (nI (y / 48 % 25))]) (st := []) dX6_year_137 kX6_264 iX0_perform vX0_perform (by decide) rfl rfl MX0_perform rfl rfl (Nat.le_of_ble_eq_true rfl) (FC.use (c_perform_2 (d + 1) z (y % 6) (by omega) (nI (y / 48 % 25))) rfl (L2 := [(0, .inr (6, [.ref 1, .ref 5, .ref 7, .ref 10, .ref 18, .ref 26, .ref 31, .ref 35, .ref 37, .int (nI rk)])), (1, .inr (0, [.ref 2, .ref 3, .ref 4, .int (skn s), .int (sdr s), .int (swa s), .int (sbu s), .int (sni s)])), (2, .inl (false, 6, sce s)), (3, .inl (false, 6, she s)), (4, .inl (false, 6, stu s)), (26, .inr (5, [.ref 27, .int y0, .int y1, .int y2, .int y3, .int y4, .int y5])), (27, .inr (0, [.ref 28, .ref 29, .ref 30, .int (skn (prS z 2 (y % 6) (nI (y / 48 % 25)))), .int (sdr (prS z 2 (y % 6) (nI (y / 48 % 25)))), .int (swa (prS z 2 (y % 6) (nI (y / 48 % 25)))), .int (sbu (prS z 2 (y % 6) (nI (y / 48 % 25)))), .int (sni (prS z 2 (y % 6) (nI (y / 48 % 25))))])), (28, .inl (false, 6, sce (prS z 2 (y % 6) (nI (y / 48 % 25))))), (29, .inl (false, 6, she (prS z 2 (y % 6) (nI (y / 48 % 25))))), (30, .inl (false, 6, stu (prS z 2 (y % 6) (nI (y / 48 % 25)))))]) rfl) (Nat.le_of_ble_eq_true rfl) (fun _ _ hq9 => E_fgo ?_ hq9)
          show E _ _ 140 [.ref 0, .int (nI x), .int (nI m), .int 0, .ref 27, .int (nI y), .int (nI i), .int (nI (y % 6)), .int 2, .int (nI (y / 48 % 25))] [.int (prF z 2)] (hov hp [(0, .inr (6, [.ref 1, .ref 5, .ref 7, .ref 10, .ref 18, .ref 26, .ref 31, .ref 35, .ref 37, .int (nI rk)])), (1, .inr (0, [.ref 2, .ref 3, .ref 4, .int (skn s), .int (sdr s), .int (swa s), .int (sbu s), .int (sni s)])), (2, .inl (false, 6, sce s)), (3, .inl (false, 6, she s)), (4, .inl (false, 6, stu s)), (26, .inr (5, [.ref 27, .int y0, .int y1, .int y2, .int y3, .int y4, .int y5])), (27, .inr (0, [.ref 28, .ref 29, .ref 30, .int (skn (prS z 2 (y % 6) (nI (y / 48 % 25)))), .int (sdr (prS z 2 (y % 6) (nI (y / 48 % 25)))), .int (swa (prS z 2 (y % 6) (nI (y / 48 % 25)))), .int (sbu (prS z 2 (y % 6) (nI (y / 48 % 25)))), .int (sni (prS z 2 (y % 6) (nI (y / 48 % 25))))])), (28, .inl (false, 6, sce (prS z 2 (y % 6) (nI (y / 48 % 25))))), (29, .inl (false, 6, she (prS z 2 (y % 6) (nI (y / 48 % 25))))), (30, .inl (false, 6, stu (prS z 2 (y % 6) (nI (y / 48 % 25)))))]) _
          refine E_pop dX6_year_140 rfl ?_
          refine E_iinc (y := nI (i + 1)) (l2 := [.ref 0, .int (nI x), .int (nI m), .int 0, .ref 27, .int (nI y), .int (nI (i + 1)), .int (nI (y % 6)), .int 2, .int (nI (y / 48 % 25))]) dX6_year_141 rfl (nI_1 _) (by decide) rfl ?_
          refine E_goto (tgt := 63) dX6_year_144 (by decide) ?_
          have e9 := ih (.int (nI (y % 6))) (.int 2) (.int (nI (y / 48 % 25)))
          rw [show yN z y = prS z 2 (y % 6) (nI (y / 48 % 25)) from by rw [yN, show yK y = 2 from (by rw [yK, hk]; rfl), if_pos c126]] at e9
          exact e9
      · refine E_iload dX6_year_63 rfl ?_
        refine E_iload_n dX6_year_65 rfl ?_
        refine E_icmp_ge (tgt := 147) dX6_year_66 (by decide) (fun c => absurd c (nI_ge hi (by omega))) (fun _ => ?_)
        refine E_bipush (v := 75) dX6_year_69 (by decide) ?_
        refine E_iload dX6_year_71 rfl ?_
        refine E_imul dX6_year_73 ?_
        refine E_bipush (v := 74) dX6_year_74 (by decide) ?_
        refine E_iadd dX6_year_76 ?_
        refine E_ldc dX6_year_77 qX6_254 ?_
        refine E_irem dX6_year_79 (by decide) ?_
        refine E_eqi (y := nI y) (by rw [← hy]; exact yX_m hX) ?_
        refine E_istore (l2 := [.ref 0, .int (nI x), .int (nI m), .int 0, .ref 27, .int (nI y), .int (nI i), l7, l8, l9]) dX6_year_80 (by decide) rfl ?_
        refine E_iload dX6_year_82 rfl ?_
        refine E_bipush (v := 6) dX6_year_84 (by decide) ?_
        refine E_callS (As := [.int (nI y), .int 6]) (l' := [.int (nI y), .int 6, .null]) (st := []) dX6_year_86 kX6_255 sJ9_floorMod_7cf53 MJ9_floorMod_7cf53 rfl rfl (Nat.le_of_ble_eq_true rfl) (FC.use (c_fmod6 (d + 5) y (by omega)) rfl (L2 := [(0, .inr (6, [.ref 1, .ref 5, .ref 7, .ref 10, .ref 18, .ref 26, .ref 31, .ref 35, .ref 37, .int (nI rk)])), (1, .inr (0, [.ref 2, .ref 3, .ref 4, .int (skn s), .int (sdr s), .int (swa s), .int (sbu s), .int (sni s)])), (2, .inl (false, 6, sce s)), (3, .inl (false, 6, she s)), (4, .inl (false, 6, stu s)), (26, .inr (5, [.ref 27, .int y0, .int y1, .int y2, .int y3, .int y4, .int y5])), (27, .inr (0, [.ref 28, .ref 29, .ref 30, .int (skn z), .int (sdr z), .int (swa z), .int (sbu z), .int (sni z)])), (28, .inl (false, 6, sce z)), (29, .inl (false, 6, she z)), (30, .inl (false, 6, stu z))]) rfl) (Nat.le_of_ble_eq_true rfl) (fun _ _ hq9 => E_fgo ?_ hq9)
        show E _ _ 89 [.ref 0, .int (nI x), .int (nI m), .int 0, .ref 27, .int (nI y), .int (nI i), l7, l8, l9] [.int (nI (y % 6))] (hov hp [(0, .inr (6, [.ref 1, .ref 5, .ref 7, .ref 10, .ref 18, .ref 26, .ref 31, .ref 35, .ref 37, .int (nI rk)])), (1, .inr (0, [.ref 2, .ref 3, .ref 4, .int (skn s), .int (sdr s), .int (swa s), .int (sbu s), .int (sni s)])), (2, .inl (false, 6, sce s)), (3, .inl (false, 6, she s)), (4, .inl (false, 6, stu s)), (26, .inr (5, [.ref 27, .int y0, .int y1, .int y2, .int y3, .int y4, .int y5])), (27, .inr (0, [.ref 28, .ref 29, .ref 30, .int (skn z), .int (sdr z), .int (swa z), .int (sbu z), .int (sni z)])), (28, .inl (false, 6, sce z)), (29, .inl (false, 6, she z)), (30, .inl (false, 6, stu z))]) _
        refine E_istore (l2 := [.ref 0, .int (nI x), .int (nI m), .int 0, .ref 27, .int (nI y), .int (nI i), .int (nI (y % 6)), l8, l9]) dX6_year_89 (by decide) rfl ?_
        refine E_iload dX6_year_91 rfl ?_
        refine E_bipush (v := 6) dX6_year_93 (by decide) ?_
        refine E_idiv dX6_year_95 (by decide) ?_
        refine E_eqi (y := nI (y / 6)) (nI_d (by omega) (by decide) (by decide)) ?_
        refine E_bipush (v := 8) dX6_year_96 (by decide) ?_
        refine E_irem dX6_year_98 (by decide) ?_
        refine E_eqi (y := nI (y / 6 % 8)) (nI_r (by omega) (by decide) (by decide)) ?_
        refine E_iconst (v := 5) dX6_year_99 (by decide) ?_
        refine E_Mmin dX6_year_100 kX6_258 (Nat.le_of_ble_eq_true rfl) ?_
        refine E_eqi (y := 3) (by rw [hk]; decide) ?_
        refine E_istore (l2 := [.ref 0, .int (nI x), .int (nI m), .int 0, .ref 27, .int (nI y), .int (nI i), .int (nI (y % 6)), .int 3, l9]) dX6_year_103 (by decide) rfl ?_
        refine E_iload dX6_year_105 rfl ?_
        refine E_bipush (v := 48) dX6_year_107 (by decide) ?_
        refine E_idiv dX6_year_109 (by decide) ?_
        refine E_eqi (y := nI (y / 48)) (nI_d (by omega) (by decide) (by decide)) ?_
        refine E_bipush (v := 25) dX6_year_110 (by decide) ?_
        refine E_irem dX6_year_112 (by decide) ?_
        refine E_eqi (y := nI (y / 48 % 25)) (nI_r (by omega) (by decide) (by decide)) ?_
        refine E_istore (l2 := [.ref 0, .int (nI x), .int (nI m), .int 0, .ref 27, .int (nI y), .int (nI i), .int (nI (y % 6)), .int 3, .int (nI (y / 48 % 25))]) dX6_year_113 (by decide) rfl ?_
        refine E_aload dX6_year_115 rfl ?_
        refine E_iload dX6_year_117 rfl ?_
        refine E_iload dX6_year_119 rfl ?_
        refine E_iload dX6_year_121 rfl ?_
        refine E_callV (As := [.int 3, .int (nI (y % 6)), .int (nI (y / 48 % 25))]) (l' := [.ref 27, .int 3, .int (nI (y % 6)), .int (nI (y / 48 % 25))]) (st := []) dX6_year_123 kX6_261 iX0_reasonAgainst vX0_reasonAgainst (by decide) rfl rfl MX0_reasonAgainst rfl rfl (Nat.le_of_ble_eq_true rfl) (FC.use (c_reason_3 (d + 4) z (y % 6) (by omega) (nI (y / 48 % 25))) rfl (L2 := [(0, .inr (6, [.ref 1, .ref 5, .ref 7, .ref 10, .ref 18, .ref 26, .ref 31, .ref 35, .ref 37, .int (nI rk)])), (1, .inr (0, [.ref 2, .ref 3, .ref 4, .int (skn s), .int (sdr s), .int (swa s), .int (sbu s), .int (sni s)])), (2, .inl (false, 6, sce s)), (3, .inl (false, 6, she s)), (4, .inl (false, 6, stu s)), (26, .inr (5, [.ref 27, .int y0, .int y1, .int y2, .int y3, .int y4, .int y5])), (27, .inr (0, [.ref 28, .ref 29, .ref 30, .int (skn z), .int (sdr z), .int (swa z), .int (sbu z), .int (sni z)])), (28, .inl (false, 6, sce z)), (29, .inl (false, 6, she z)), (30, .inl (false, 6, stu z))]) rfl) (Nat.le_of_ble_eq_true rfl) (fun _ _ hq9 => E_fgo ?_ hq9)
        show E _ _ 126 [.ref 0, .int (nI x), .int (nI m), .int 0, .ref 27, .int (nI y), .int (nI i), .int (nI (y % 6)), .int 3, .int (nI (y / 48 % 25))] [.int (rsn z 3 (y % 6) (nI (y / 48 % 25)))] (hov hp [(0, .inr (6, [.ref 1, .ref 5, .ref 7, .ref 10, .ref 18, .ref 26, .ref 31, .ref 35, .ref 37, .int (nI rk)])), (1, .inr (0, [.ref 2, .ref 3, .ref 4, .int (skn s), .int (sdr s), .int (swa s), .int (sbu s), .int (sni s)])), (2, .inl (false, 6, sce s)), (3, .inl (false, 6, she s)), (4, .inl (false, 6, stu s)), (26, .inr (5, [.ref 27, .int y0, .int y1, .int y2, .int y3, .int y4, .int y5])), (27, .inr (0, [.ref 28, .ref 29, .ref 30, .int (skn z), .int (sdr z), .int (swa z), .int (sbu z), .int (sni z)])), (28, .inl (false, 6, sce z)), (29, .inl (false, 6, she z)), (30, .inl (false, 6, stu z))]) _
        refine E_if_ne (tgt := 141) dX6_year_126 (by decide) (fun c126 => ?_) (fun c126 => ?_)
        · refine E_iinc (y := nI (i + 1)) (l2 := [.ref 0, .int (nI x), .int (nI m), .int 0, .ref 27, .int (nI y), .int (nI (i + 1)), .int (nI (y % 6)), .int 3, .int (nI (y / 48 % 25))]) dX6_year_141 rfl (nI_1 _) (by decide) rfl ?_
          refine E_goto (tgt := 63) dX6_year_144 (by decide) ?_
          have e9 := ih (.int (nI (y % 6))) (.int 3) (.int (nI (y / 48 % 25)))
          rw [show yN z y = z from by rw [yN, show yK y = 3 from (by rw [yK, hk]; rfl), if_neg c126]] at e9
          exact e9
        · refine E_aload dX6_year_129 rfl ?_
          refine E_iload dX6_year_131 rfl ?_
          refine E_iload dX6_year_133 rfl ?_
          refine E_iload dX6_year_135 rfl ?_
          refine E_callV (As := [.int 3, .int (nI (y % 6)), .int (nI (y / 48 % 25))]) (l' := [.ref 27, .int 3, .int (nI (y % 6)), .int (nI (y / 48 % 25))]) (st := []) dX6_year_137 kX6_264 iX0_perform vX0_perform (by decide) rfl rfl MX0_perform rfl rfl (Nat.le_of_ble_eq_true rfl) (FC.use (c_perform_3 (d + 1) z (y % 6) (by omega) (nI (y / 48 % 25))) rfl (L2 := [(0, .inr (6, [.ref 1, .ref 5, .ref 7, .ref 10, .ref 18, .ref 26, .ref 31, .ref 35, .ref 37, .int (nI rk)])), (1, .inr (0, [.ref 2, .ref 3, .ref 4, .int (skn s), .int (sdr s), .int (swa s), .int (sbu s), .int (sni s)])), (2, .inl (false, 6, sce s)), (3, .inl (false, 6, she s)), (4, .inl (false, 6, stu s)), (26, .inr (5, [.ref 27, .int y0, .int y1, .int y2, .int y3, .int y4, .int y5])), (27, .inr (0, [.ref 28, .ref 29, .ref 30, .int (skn (prS z 3 (y % 6) (nI (y / 48 % 25)))), .int (sdr (prS z 3 (y % 6) (nI (y / 48 % 25)))), .int (swa (prS z 3 (y % 6) (nI (y / 48 % 25)))), .int (sbu (prS z 3 (y % 6) (nI (y / 48 % 25)))), .int (sni (prS z 3 (y % 6) (nI (y / 48 % 25))))])), (28, .inl (false, 6, sce (prS z 3 (y % 6) (nI (y / 48 % 25))))), (29, .inl (false, 6, she (prS z 3 (y % 6) (nI (y / 48 % 25))))), (30, .inl (false, 6, stu (prS z 3 (y % 6) (nI (y / 48 % 25)))))]) rfl) (Nat.le_of_ble_eq_true rfl) (fun _ _ hq9 => E_fgo ?_ hq9)
          show E _ _ 140 [.ref 0, .int (nI x), .int (nI m), .int 0, .ref 27, .int (nI y), .int (nI i), .int (nI (y % 6)), .int 3, .int (nI (y / 48 % 25))] [.int (prF z 3)] (hov hp [(0, .inr (6, [.ref 1, .ref 5, .ref 7, .ref 10, .ref 18, .ref 26, .ref 31, .ref 35, .ref 37, .int (nI rk)])), (1, .inr (0, [.ref 2, .ref 3, .ref 4, .int (skn s), .int (sdr s), .int (swa s), .int (sbu s), .int (sni s)])), (2, .inl (false, 6, sce s)), (3, .inl (false, 6, she s)), (4, .inl (false, 6, stu s)), (26, .inr (5, [.ref 27, .int y0, .int y1, .int y2, .int y3, .int y4, .int y5])), (27, .inr (0, [.ref 28, .ref 29, .ref 30, .int (skn (prS z 3 (y % 6) (nI (y / 48 % 25)))), .int (sdr (prS z 3 (y % 6) (nI (y / 48 % 25)))), .int (swa (prS z 3 (y % 6) (nI (y / 48 % 25)))), .int (sbu (prS z 3 (y % 6) (nI (y / 48 % 25)))), .int (sni (prS z 3 (y % 6) (nI (y / 48 % 25))))])), (28, .inl (false, 6, sce (prS z 3 (y % 6) (nI (y / 48 % 25))))), (29, .inl (false, 6, she (prS z 3 (y % 6) (nI (y / 48 % 25))))), (30, .inl (false, 6, stu (prS z 3 (y % 6) (nI (y / 48 % 25)))))]) _
          refine E_pop dX6_year_140 rfl ?_
          refine E_iinc (y := nI (i + 1)) (l2 := [.ref 0, .int (nI x), .int (nI m), .int 0, .ref 27, .int (nI y), .int (nI (i + 1)), .int (nI (y % 6)), .int 3, .int (nI (y / 48 % 25))]) dX6_year_141 rfl (nI_1 _) (by decide) rfl ?_
          refine E_goto (tgt := 63) dX6_year_144 (by decide) ?_
          have e9 := ih (.int (nI (y % 6))) (.int 3) (.int (nI (y / 48 % 25)))
          rw [show yN z y = prS z 3 (y % 6) (nI (y / 48 % 25)) from by rw [yN, show yK y = 3 from (by rw [yK, hk]; rfl), if_pos c126]] at e9
          exact e9
      · refine E_iload dX6_year_63 rfl ?_
        refine E_iload_n dX6_year_65 rfl ?_
        refine E_icmp_ge (tgt := 147) dX6_year_66 (by decide) (fun c => absurd c (nI_ge hi (by omega))) (fun _ => ?_)
        refine E_bipush (v := 75) dX6_year_69 (by decide) ?_
        refine E_iload dX6_year_71 rfl ?_
        refine E_imul dX6_year_73 ?_
        refine E_bipush (v := 74) dX6_year_74 (by decide) ?_
        refine E_iadd dX6_year_76 ?_
        refine E_ldc dX6_year_77 qX6_254 ?_
        refine E_irem dX6_year_79 (by decide) ?_
        refine E_eqi (y := nI y) (by rw [← hy]; exact yX_m hX) ?_
        refine E_istore (l2 := [.ref 0, .int (nI x), .int (nI m), .int 0, .ref 27, .int (nI y), .int (nI i), l7, l8, l9]) dX6_year_80 (by decide) rfl ?_
        refine E_iload dX6_year_82 rfl ?_
        refine E_bipush (v := 6) dX6_year_84 (by decide) ?_
        refine E_callS (As := [.int (nI y), .int 6]) (l' := [.int (nI y), .int 6, .null]) (st := []) dX6_year_86 kX6_255 sJ9_floorMod_7cf53 MJ9_floorMod_7cf53 rfl rfl (Nat.le_of_ble_eq_true rfl) (FC.use (c_fmod6 (d + 5) y (by omega)) rfl (L2 := [(0, .inr (6, [.ref 1, .ref 5, .ref 7, .ref 10, .ref 18, .ref 26, .ref 31, .ref 35, .ref 37, .int (nI rk)])), (1, .inr (0, [.ref 2, .ref 3, .ref 4, .int (skn s), .int (sdr s), .int (swa s), .int (sbu s), .int (sni s)])), (2, .inl (false, 6, sce s)), (3, .inl (false, 6, she s)), (4, .inl (false, 6, stu s)), (26, .inr (5, [.ref 27, .int y0, .int y1, .int y2, .int y3, .int y4, .int y5])), (27, .inr (0, [.ref 28, .ref 29, .ref 30, .int (skn z), .int (sdr z), .int (swa z), .int (sbu z), .int (sni z)])), (28, .inl (false, 6, sce z)), (29, .inl (false, 6, she z)), (30, .inl (false, 6, stu z))]) rfl) (Nat.le_of_ble_eq_true rfl) (fun _ _ hq9 => E_fgo ?_ hq9)
        show E _ _ 89 [.ref 0, .int (nI x), .int (nI m), .int 0, .ref 27, .int (nI y), .int (nI i), l7, l8, l9] [.int (nI (y % 6))] (hov hp [(0, .inr (6, [.ref 1, .ref 5, .ref 7, .ref 10, .ref 18, .ref 26, .ref 31, .ref 35, .ref 37, .int (nI rk)])), (1, .inr (0, [.ref 2, .ref 3, .ref 4, .int (skn s), .int (sdr s), .int (swa s), .int (sbu s), .int (sni s)])), (2, .inl (false, 6, sce s)), (3, .inl (false, 6, she s)), (4, .inl (false, 6, stu s)), (26, .inr (5, [.ref 27, .int y0, .int y1, .int y2, .int y3, .int y4, .int y5])), (27, .inr (0, [.ref 28, .ref 29, .ref 30, .int (skn z), .int (sdr z), .int (swa z), .int (sbu z), .int (sni z)])), (28, .inl (false, 6, sce z)), (29, .inl (false, 6, she z)), (30, .inl (false, 6, stu z))]) _
        refine E_istore (l2 := [.ref 0, .int (nI x), .int (nI m), .int 0, .ref 27, .int (nI y), .int (nI i), .int (nI (y % 6)), l8, l9]) dX6_year_89 (by decide) rfl ?_
        refine E_iload dX6_year_91 rfl ?_
        refine E_bipush (v := 6) dX6_year_93 (by decide) ?_
        refine E_idiv dX6_year_95 (by decide) ?_
        refine E_eqi (y := nI (y / 6)) (nI_d (by omega) (by decide) (by decide)) ?_
        refine E_bipush (v := 8) dX6_year_96 (by decide) ?_
        refine E_irem dX6_year_98 (by decide) ?_
        refine E_eqi (y := nI (y / 6 % 8)) (nI_r (by omega) (by decide) (by decide)) ?_
        refine E_iconst (v := 5) dX6_year_99 (by decide) ?_
        refine E_Mmin dX6_year_100 kX6_258 (Nat.le_of_ble_eq_true rfl) ?_
        refine E_eqi (y := 4) (by rw [hk]; decide) ?_
        refine E_istore (l2 := [.ref 0, .int (nI x), .int (nI m), .int 0, .ref 27, .int (nI y), .int (nI i), .int (nI (y % 6)), .int 4, l9]) dX6_year_103 (by decide) rfl ?_
        refine E_iload dX6_year_105 rfl ?_
        refine E_bipush (v := 48) dX6_year_107 (by decide) ?_
        refine E_idiv dX6_year_109 (by decide) ?_
        refine E_eqi (y := nI (y / 48)) (nI_d (by omega) (by decide) (by decide)) ?_
        refine E_bipush (v := 25) dX6_year_110 (by decide) ?_
        refine E_irem dX6_year_112 (by decide) ?_
        refine E_eqi (y := nI (y / 48 % 25)) (nI_r (by omega) (by decide) (by decide)) ?_
        refine E_istore (l2 := [.ref 0, .int (nI x), .int (nI m), .int 0, .ref 27, .int (nI y), .int (nI i), .int (nI (y % 6)), .int 4, .int (nI (y / 48 % 25))]) dX6_year_113 (by decide) rfl ?_
        refine E_aload dX6_year_115 rfl ?_
        refine E_iload dX6_year_117 rfl ?_
        refine E_iload dX6_year_119 rfl ?_
        refine E_iload dX6_year_121 rfl ?_
        refine E_callV (As := [.int 4, .int (nI (y % 6)), .int (nI (y / 48 % 25))]) (l' := [.ref 27, .int 4, .int (nI (y % 6)), .int (nI (y / 48 % 25))]) (st := []) dX6_year_123 kX6_261 iX0_reasonAgainst vX0_reasonAgainst (by decide) rfl rfl MX0_reasonAgainst rfl rfl (Nat.le_of_ble_eq_true rfl) (FC.use (c_reason_4 (d + 4) z (y % 6) (by omega) (nI (y / 48 % 25))) rfl (L2 := [(0, .inr (6, [.ref 1, .ref 5, .ref 7, .ref 10, .ref 18, .ref 26, .ref 31, .ref 35, .ref 37, .int (nI rk)])), (1, .inr (0, [.ref 2, .ref 3, .ref 4, .int (skn s), .int (sdr s), .int (swa s), .int (sbu s), .int (sni s)])), (2, .inl (false, 6, sce s)), (3, .inl (false, 6, she s)), (4, .inl (false, 6, stu s)), (26, .inr (5, [.ref 27, .int y0, .int y1, .int y2, .int y3, .int y4, .int y5])), (27, .inr (0, [.ref 28, .ref 29, .ref 30, .int (skn z), .int (sdr z), .int (swa z), .int (sbu z), .int (sni z)])), (28, .inl (false, 6, sce z)), (29, .inl (false, 6, she z)), (30, .inl (false, 6, stu z))]) rfl) (Nat.le_of_ble_eq_true rfl) (fun _ _ hq9 => E_fgo ?_ hq9)
        show E _ _ 126 [.ref 0, .int (nI x), .int (nI m), .int 0, .ref 27, .int (nI y), .int (nI i), .int (nI (y % 6)), .int 4, .int (nI (y / 48 % 25))] [.int (rsn z 4 (y % 6) (nI (y / 48 % 25)))] (hov hp [(0, .inr (6, [.ref 1, .ref 5, .ref 7, .ref 10, .ref 18, .ref 26, .ref 31, .ref 35, .ref 37, .int (nI rk)])), (1, .inr (0, [.ref 2, .ref 3, .ref 4, .int (skn s), .int (sdr s), .int (swa s), .int (sbu s), .int (sni s)])), (2, .inl (false, 6, sce s)), (3, .inl (false, 6, she s)), (4, .inl (false, 6, stu s)), (26, .inr (5, [.ref 27, .int y0, .int y1, .int y2, .int y3, .int y4, .int y5])), (27, .inr (0, [.ref 28, .ref 29, .ref 30, .int (skn z), .int (sdr z), .int (swa z), .int (sbu z), .int (sni z)])), (28, .inl (false, 6, sce z)), (29, .inl (false, 6, she z)), (30, .inl (false, 6, stu z))]) _
        refine E_if_ne (tgt := 141) dX6_year_126 (by decide) (fun c126 => ?_) (fun c126 => ?_)
        · refine E_iinc (y := nI (i + 1)) (l2 := [.ref 0, .int (nI x), .int (nI m), .int 0, .ref 27, .int (nI y), .int (nI (i + 1)), .int (nI (y % 6)), .int 4, .int (nI (y / 48 % 25))]) dX6_year_141 rfl (nI_1 _) (by decide) rfl ?_
          refine E_goto (tgt := 63) dX6_year_144 (by decide) ?_
          have e9 := ih (.int (nI (y % 6))) (.int 4) (.int (nI (y / 48 % 25)))
          rw [show yN z y = z from by rw [yN, show yK y = 4 from (by rw [yK, hk]; rfl), if_neg c126]] at e9
          exact e9
        · refine E_aload dX6_year_129 rfl ?_
          refine E_iload dX6_year_131 rfl ?_
          refine E_iload dX6_year_133 rfl ?_
          refine E_iload dX6_year_135 rfl ?_
          refine E_callV (As := [.int 4, .int (nI (y % 6)), .int (nI (y / 48 % 25))]) (l' := [.ref 27, .int 4, .int (nI (y % 6)), .int (nI (y / 48 % 25))]) (st := []) dX6_year_137 kX6_264 iX0_perform vX0_perform (by decide) rfl rfl MX0_perform rfl rfl (Nat.le_of_ble_eq_true rfl) (FC.use (c_perform_4 (d + 1) z (y % 6) (by omega) (nI (y / 48 % 25))) rfl (L2 := [(0, .inr (6, [.ref 1, .ref 5, .ref 7, .ref 10, .ref 18, .ref 26, .ref 31, .ref 35, .ref 37, .int (nI rk)])), (1, .inr (0, [.ref 2, .ref 3, .ref 4, .int (skn s), .int (sdr s), .int (swa s), .int (sbu s), .int (sni s)])), (2, .inl (false, 6, sce s)), (3, .inl (false, 6, she s)), (4, .inl (false, 6, stu s)), (26, .inr (5, [.ref 27, .int y0, .int y1, .int y2, .int y3, .int y4, .int y5])), (27, .inr (0, [.ref 28, .ref 29, .ref 30, .int (skn (prS z 4 (y % 6) (nI (y / 48 % 25)))), .int (sdr (prS z 4 (y % 6) (nI (y / 48 % 25)))), .int (swa (prS z 4 (y % 6) (nI (y / 48 % 25)))), .int (sbu (prS z 4 (y % 6) (nI (y / 48 % 25)))), .int (sni (prS z 4 (y % 6) (nI (y / 48 % 25))))])), (28, .inl (false, 6, sce (prS z 4 (y % 6) (nI (y / 48 % 25))))), (29, .inl (false, 6, she (prS z 4 (y % 6) (nI (y / 48 % 25))))), (30, .inl (false, 6, stu (prS z 4 (y % 6) (nI (y / 48 % 25)))))]) rfl) (Nat.le_of_ble_eq_true rfl) (fun _ _ hq9 => E_fgo ?_ hq9)
          show E _ _ 140 [.ref 0, .int (nI x), .int (nI m), .int 0, .ref 27, .int (nI y), .int (nI i), .int (nI (y % 6)), .int 4, .int (nI (y / 48 % 25))] [.int (prF z 4)] (hov hp [(0, .inr (6, [.ref 1, .ref 5, .ref 7, .ref 10, .ref 18, .ref 26, .ref 31, .ref 35, .ref 37, .int (nI rk)])), (1, .inr (0, [.ref 2, .ref 3, .ref 4, .int (skn s), .int (sdr s), .int (swa s), .int (sbu s), .int (sni s)])), (2, .inl (false, 6, sce s)), (3, .inl (false, 6, she s)), (4, .inl (false, 6, stu s)), (26, .inr (5, [.ref 27, .int y0, .int y1, .int y2, .int y3, .int y4, .int y5])), (27, .inr (0, [.ref 28, .ref 29, .ref 30, .int (skn (prS z 4 (y % 6) (nI (y / 48 % 25)))), .int (sdr (prS z 4 (y % 6) (nI (y / 48 % 25)))), .int (swa (prS z 4 (y % 6) (nI (y / 48 % 25)))), .int (sbu (prS z 4 (y % 6) (nI (y / 48 % 25)))), .int (sni (prS z 4 (y % 6) (nI (y / 48 % 25))))])), (28, .inl (false, 6, sce (prS z 4 (y % 6) (nI (y / 48 % 25))))), (29, .inl (false, 6, she (prS z 4 (y % 6) (nI (y / 48 % 25))))), (30, .inl (false, 6, stu (prS z 4 (y % 6) (nI (y / 48 % 25)))))]) _
          refine E_pop dX6_year_140 rfl ?_
          refine E_iinc (y := nI (i + 1)) (l2 := [.ref 0, .int (nI x), .int (nI m), .int 0, .ref 27, .int (nI y), .int (nI (i + 1)), .int (nI (y % 6)), .int 4, .int (nI (y / 48 % 25))]) dX6_year_141 rfl (nI_1 _) (by decide) rfl ?_
          refine E_goto (tgt := 63) dX6_year_144 (by decide) ?_
          have e9 := ih (.int (nI (y % 6))) (.int 4) (.int (nI (y / 48 % 25)))
          rw [show yN z y = prS z 4 (y % 6) (nI (y / 48 % 25)) from by rw [yN, show yK y = 4 from (by rw [yK, hk]; rfl), if_pos c126]] at e9
          exact e9
      · refine E_iload dX6_year_63 rfl ?_
        refine E_iload_n dX6_year_65 rfl ?_
        refine E_icmp_ge (tgt := 147) dX6_year_66 (by decide) (fun c => absurd c (nI_ge hi (by omega))) (fun _ => ?_)
        refine E_bipush (v := 75) dX6_year_69 (by decide) ?_
        refine E_iload dX6_year_71 rfl ?_
        refine E_imul dX6_year_73 ?_
        refine E_bipush (v := 74) dX6_year_74 (by decide) ?_
        refine E_iadd dX6_year_76 ?_
        refine E_ldc dX6_year_77 qX6_254 ?_
        refine E_irem dX6_year_79 (by decide) ?_
        refine E_eqi (y := nI y) (by rw [← hy]; exact yX_m hX) ?_
        refine E_istore (l2 := [.ref 0, .int (nI x), .int (nI m), .int 0, .ref 27, .int (nI y), .int (nI i), l7, l8, l9]) dX6_year_80 (by decide) rfl ?_
        refine E_iload dX6_year_82 rfl ?_
        refine E_bipush (v := 6) dX6_year_84 (by decide) ?_
        refine E_callS (As := [.int (nI y), .int 6]) (l' := [.int (nI y), .int 6, .null]) (st := []) dX6_year_86 kX6_255 sJ9_floorMod_7cf53 MJ9_floorMod_7cf53 rfl rfl (Nat.le_of_ble_eq_true rfl) (FC.use (c_fmod6 (d + 5) y (by omega)) rfl (L2 := [(0, .inr (6, [.ref 1, .ref 5, .ref 7, .ref 10, .ref 18, .ref 26, .ref 31, .ref 35, .ref 37, .int (nI rk)])), (1, .inr (0, [.ref 2, .ref 3, .ref 4, .int (skn s), .int (sdr s), .int (swa s), .int (sbu s), .int (sni s)])), (2, .inl (false, 6, sce s)), (3, .inl (false, 6, she s)), (4, .inl (false, 6, stu s)), (26, .inr (5, [.ref 27, .int y0, .int y1, .int y2, .int y3, .int y4, .int y5])), (27, .inr (0, [.ref 28, .ref 29, .ref 30, .int (skn z), .int (sdr z), .int (swa z), .int (sbu z), .int (sni z)])), (28, .inl (false, 6, sce z)), (29, .inl (false, 6, she z)), (30, .inl (false, 6, stu z))]) rfl) (Nat.le_of_ble_eq_true rfl) (fun _ _ hq9 => E_fgo ?_ hq9)
        show E _ _ 89 [.ref 0, .int (nI x), .int (nI m), .int 0, .ref 27, .int (nI y), .int (nI i), l7, l8, l9] [.int (nI (y % 6))] (hov hp [(0, .inr (6, [.ref 1, .ref 5, .ref 7, .ref 10, .ref 18, .ref 26, .ref 31, .ref 35, .ref 37, .int (nI rk)])), (1, .inr (0, [.ref 2, .ref 3, .ref 4, .int (skn s), .int (sdr s), .int (swa s), .int (sbu s), .int (sni s)])), (2, .inl (false, 6, sce s)), (3, .inl (false, 6, she s)), (4, .inl (false, 6, stu s)), (26, .inr (5, [.ref 27, .int y0, .int y1, .int y2, .int y3, .int y4, .int y5])), (27, .inr (0, [.ref 28, .ref 29, .ref 30, .int (skn z), .int (sdr z), .int (swa z), .int (sbu z), .int (sni z)])), (28, .inl (false, 6, sce z)), (29, .inl (false, 6, she z)), (30, .inl (false, 6, stu z))]) _
        refine E_istore (l2 := [.ref 0, .int (nI x), .int (nI m), .int 0, .ref 27, .int (nI y), .int (nI i), .int (nI (y % 6)), l8, l9]) dX6_year_89 (by decide) rfl ?_
        refine E_iload dX6_year_91 rfl ?_
        refine E_bipush (v := 6) dX6_year_93 (by decide) ?_
        refine E_idiv dX6_year_95 (by decide) ?_
        refine E_eqi (y := nI (y / 6)) (nI_d (by omega) (by decide) (by decide)) ?_
        refine E_bipush (v := 8) dX6_year_96 (by decide) ?_
        refine E_irem dX6_year_98 (by decide) ?_
        refine E_eqi (y := nI (y / 6 % 8)) (nI_r (by omega) (by decide) (by decide)) ?_
        refine E_iconst (v := 5) dX6_year_99 (by decide) ?_
        refine E_Mmin dX6_year_100 kX6_258 (Nat.le_of_ble_eq_true rfl) ?_
        refine E_eqi (y := 5) (min5 hk (by omega)) ?_
        refine E_istore (l2 := [.ref 0, .int (nI x), .int (nI m), .int 0, .ref 27, .int (nI y), .int (nI i), .int (nI (y % 6)), .int 5, l9]) dX6_year_103 (by decide) rfl ?_
        refine E_iload dX6_year_105 rfl ?_
        refine E_bipush (v := 48) dX6_year_107 (by decide) ?_
        refine E_idiv dX6_year_109 (by decide) ?_
        refine E_eqi (y := nI (y / 48)) (nI_d (by omega) (by decide) (by decide)) ?_
        refine E_bipush (v := 25) dX6_year_110 (by decide) ?_
        refine E_irem dX6_year_112 (by decide) ?_
        refine E_eqi (y := nI (y / 48 % 25)) (nI_r (by omega) (by decide) (by decide)) ?_
        refine E_istore (l2 := [.ref 0, .int (nI x), .int (nI m), .int 0, .ref 27, .int (nI y), .int (nI i), .int (nI (y % 6)), .int 5, .int (nI (y / 48 % 25))]) dX6_year_113 (by decide) rfl ?_
        refine E_aload dX6_year_115 rfl ?_
        refine E_iload dX6_year_117 rfl ?_
        refine E_iload dX6_year_119 rfl ?_
        refine E_iload dX6_year_121 rfl ?_
        refine E_callV (As := [.int 5, .int (nI (y % 6)), .int (nI (y / 48 % 25))]) (l' := [.ref 27, .int 5, .int (nI (y % 6)), .int (nI (y / 48 % 25))]) (st := []) dX6_year_123 kX6_261 iX0_reasonAgainst vX0_reasonAgainst (by decide) rfl rfl MX0_reasonAgainst rfl rfl (Nat.le_of_ble_eq_true rfl) (FC.use (c_reason_5 (d + 4) z (y % 6) (by omega) (nI (y / 48 % 25))) rfl (L2 := [(0, .inr (6, [.ref 1, .ref 5, .ref 7, .ref 10, .ref 18, .ref 26, .ref 31, .ref 35, .ref 37, .int (nI rk)])), (1, .inr (0, [.ref 2, .ref 3, .ref 4, .int (skn s), .int (sdr s), .int (swa s), .int (sbu s), .int (sni s)])), (2, .inl (false, 6, sce s)), (3, .inl (false, 6, she s)), (4, .inl (false, 6, stu s)), (26, .inr (5, [.ref 27, .int y0, .int y1, .int y2, .int y3, .int y4, .int y5])), (27, .inr (0, [.ref 28, .ref 29, .ref 30, .int (skn z), .int (sdr z), .int (swa z), .int (sbu z), .int (sni z)])), (28, .inl (false, 6, sce z)), (29, .inl (false, 6, she z)), (30, .inl (false, 6, stu z))]) rfl) (Nat.le_of_ble_eq_true rfl) (fun _ _ hq9 => E_fgo ?_ hq9)
        show E _ _ 126 [.ref 0, .int (nI x), .int (nI m), .int 0, .ref 27, .int (nI y), .int (nI i), .int (nI (y % 6)), .int 5, .int (nI (y / 48 % 25))] [.int (rsn z 5 (y % 6) (nI (y / 48 % 25)))] (hov hp [(0, .inr (6, [.ref 1, .ref 5, .ref 7, .ref 10, .ref 18, .ref 26, .ref 31, .ref 35, .ref 37, .int (nI rk)])), (1, .inr (0, [.ref 2, .ref 3, .ref 4, .int (skn s), .int (sdr s), .int (swa s), .int (sbu s), .int (sni s)])), (2, .inl (false, 6, sce s)), (3, .inl (false, 6, she s)), (4, .inl (false, 6, stu s)), (26, .inr (5, [.ref 27, .int y0, .int y1, .int y2, .int y3, .int y4, .int y5])), (27, .inr (0, [.ref 28, .ref 29, .ref 30, .int (skn z), .int (sdr z), .int (swa z), .int (sbu z), .int (sni z)])), (28, .inl (false, 6, sce z)), (29, .inl (false, 6, she z)), (30, .inl (false, 6, stu z))]) _
        refine E_if_ne (tgt := 141) dX6_year_126 (by decide) (fun c126 => ?_) (fun c126 => ?_)
        · refine E_iinc (y := nI (i + 1)) (l2 := [.ref 0, .int (nI x), .int (nI m), .int 0, .ref 27, .int (nI y), .int (nI (i + 1)), .int (nI (y % 6)), .int 5, .int (nI (y / 48 % 25))]) dX6_year_141 rfl (nI_1 _) (by decide) rfl ?_
          refine E_goto (tgt := 63) dX6_year_144 (by decide) ?_
          have e9 := ih (.int (nI (y % 6))) (.int 5) (.int (nI (y / 48 % 25)))
          rw [show yN z y = z from by rw [yN, show yK y = 5 from (by rw [yK, if_neg (by omega)]), if_neg c126]] at e9
          exact e9
        · refine E_aload dX6_year_129 rfl ?_
          refine E_iload dX6_year_131 rfl ?_
          refine E_iload dX6_year_133 rfl ?_
          refine E_iload dX6_year_135 rfl ?_
          refine E_callV (As := [.int 5, .int (nI (y % 6)), .int (nI (y / 48 % 25))]) (l' := [.ref 27, .int 5, .int (nI (y % 6)), .int (nI (y / 48 % 25))]) (st := []) dX6_year_137 kX6_264 iX0_perform vX0_perform (by decide) rfl rfl MX0_perform rfl rfl (Nat.le_of_ble_eq_true rfl) (FC.use (c_perform_5 (d + 1) z (y % 6) (by omega) (nI (y / 48 % 25))) rfl (L2 := [(0, .inr (6, [.ref 1, .ref 5, .ref 7, .ref 10, .ref 18, .ref 26, .ref 31, .ref 35, .ref 37, .int (nI rk)])), (1, .inr (0, [.ref 2, .ref 3, .ref 4, .int (skn s), .int (sdr s), .int (swa s), .int (sbu s), .int (sni s)])), (2, .inl (false, 6, sce s)), (3, .inl (false, 6, she s)), (4, .inl (false, 6, stu s)), (26, .inr (5, [.ref 27, .int y0, .int y1, .int y2, .int y3, .int y4, .int y5])), (27, .inr (0, [.ref 28, .ref 29, .ref 30, .int (skn (prS z 5 (y % 6) (nI (y / 48 % 25)))), .int (sdr (prS z 5 (y % 6) (nI (y / 48 % 25)))), .int (swa (prS z 5 (y % 6) (nI (y / 48 % 25)))), .int (sbu (prS z 5 (y % 6) (nI (y / 48 % 25)))), .int (sni (prS z 5 (y % 6) (nI (y / 48 % 25))))])), (28, .inl (false, 6, sce (prS z 5 (y % 6) (nI (y / 48 % 25))))), (29, .inl (false, 6, she (prS z 5 (y % 6) (nI (y / 48 % 25))))), (30, .inl (false, 6, stu (prS z 5 (y % 6) (nI (y / 48 % 25)))))]) rfl) (Nat.le_of_ble_eq_true rfl) (fun _ _ hq9 => E_fgo ?_ hq9)
          show E _ _ 140 [.ref 0, .int (nI x), .int (nI m), .int 0, .ref 27, .int (nI y), .int (nI i), .int (nI (y % 6)), .int 5, .int (nI (y / 48 % 25))] [.int (prF z 5)] (hov hp [(0, .inr (6, [.ref 1, .ref 5, .ref 7, .ref 10, .ref 18, .ref 26, .ref 31, .ref 35, .ref 37, .int (nI rk)])), (1, .inr (0, [.ref 2, .ref 3, .ref 4, .int (skn s), .int (sdr s), .int (swa s), .int (sbu s), .int (sni s)])), (2, .inl (false, 6, sce s)), (3, .inl (false, 6, she s)), (4, .inl (false, 6, stu s)), (26, .inr (5, [.ref 27, .int y0, .int y1, .int y2, .int y3, .int y4, .int y5])), (27, .inr (0, [.ref 28, .ref 29, .ref 30, .int (skn (prS z 5 (y % 6) (nI (y / 48 % 25)))), .int (sdr (prS z 5 (y % 6) (nI (y / 48 % 25)))), .int (swa (prS z 5 (y % 6) (nI (y / 48 % 25)))), .int (sbu (prS z 5 (y % 6) (nI (y / 48 % 25)))), .int (sni (prS z 5 (y % 6) (nI (y / 48 % 25))))])), (28, .inl (false, 6, sce (prS z 5 (y % 6) (nI (y / 48 % 25))))), (29, .inl (false, 6, she (prS z 5 (y % 6) (nI (y / 48 % 25))))), (30, .inl (false, 6, stu (prS z 5 (y % 6) (nI (y / 48 % 25)))))]) _
          refine E_pop dX6_year_140 rfl ?_
          refine E_iinc (y := nI (i + 1)) (l2 := [.ref 0, .int (nI x), .int (nI m), .int 0, .ref 27, .int (nI y), .int (nI (i + 1)), .int (nI (y % 6)), .int 5, .int (nI (y / 48 % 25))]) dX6_year_141 rfl (nI_1 _) (by decide) rfl ?_
          refine E_goto (tgt := 63) dX6_year_144 (by decide) ?_
          have e9 := ih (.int (nI (y % 6))) (.int 5) (.int (nI (y / 48 % 25)))
          rw [show yN z y = prS z 5 (y % 6) (nI (y / 48 % 25)) from by rw [yN, show yK y = 5 from (by rw [yK, if_neg (by omega)]), if_pos c126]] at e9
          exact e9
  exact L63 0 (by omega) _ _ _

set_option maxHeartbeats 4000000 in
set_option maxRecDepth 20000 in
theorem t_year_1 (d : Nat) (rk : Nat) (s t : CS) (hA : Agr t s) (y0 y1 y2 y3 y4 y5 : Int32) (x m : Nat) (hx : x < 10000) (hm : m < 100) (h0 : inL (Int32.toInt64 (nI x)) 0 9999 = true) (h1 : inL (Int32.toInt64 (nI m)) 1 99 = true) : FC YX6_year (d + 6) [.ref 0, .int (nI x), .int (nI m), .int 1, .null, .null, .null, .null, .null, .null] [(0, .inr (6, [.ref 1, .ref 5, .ref 7, .ref 10, .ref 18, .ref 26, .ref 31, .ref 35, .ref 37, .int (nI rk)])), (1, .inr (0, [.ref 2, .ref 3, .ref 4, .int (skn s), .int (sdr s), .int (swa s), .int (sbu s), .int (sni s)])), (2, .inl (false, 6, sce s)), (3, .inl (false, 6, she s)), (4, .inl (false, 6, stu s)), (26, .inr (5, [.ref 27, .int y0, .int y1, .int y2, .int y3, .int y4, .int y5])), (27, .inr (0, [.ref 28, .ref 29, .ref 30, .int (skn t), .int (sdr t), .int (swa t), .int (sbu t), .int (sni t)])), (28, .inl (false, 6, sce t)), (29, .inl (false, 6, she t)), (30, .inl (false, 6, stu t))] (some (.int (bcI (sdr (yr s x m).1)))) [(0, .inr (6, [.ref 1, .ref 5, .ref 7, .ref 10, .ref 18, .ref 26, .ref 31, .ref 35, .ref 37, .int (nI rk)])), (1, .inr (0, [.ref 2, .ref 3, .ref 4, .int (skn s), .int (sdr s), .int (swa s), .int (sbu s), .int (sni s)])), (2, .inl (false, 6, sce s)), (3, .inl (false, 6, she s)), (4, .inl (false, 6, stu s)), (26, .inr (5, [.ref 27, .int y0, .int y1, .int y2, .int y3, .int y4, .int y5])), (27, .inr (0, [.ref 28, .ref 29, .ref 30, .int (skn ((yr s x m).1)), .int (sdr ((yr s x m).1)), .int (swa ((yr s x m).1)), .int (sbu ((yr s x m).1)), .int (sni ((yr s x m).1))])), (28, .inl (false, 6, sce ((yr s x m).1))), (29, .inl (false, 6, she ((yr s x m).1))), (30, .inl (false, 6, stu ((yr s x m).1)))] := by
  intro hp
  refine E_iload_n dX6_year_0 rfl ?_
  refine E_i2l dX6_year_1 ?_
  refine E_lconst (v := 0) dX6_year_2 (by decide) ?_
  refine E_ldc2 dX6_year_3 qX6_189 ?_
  refine E_callS (As := [.long (Int32.toInt64 (nI x)), .long 0, .long 9999]) (l' := [.long (Int32.toInt64 (nI x)), .null, .long 0, .null, .long 9999, .null]) (st := []) dX6_year_6 kX6_73 sX6_isIn MX6_isIn rfl rfl (Nat.le_of_ble_eq_true rfl) (FC.use (c_isIn (d + 5) _ _ _) rfl (L2 := [(0, .inr (6, [.ref 1, .ref 5, .ref 7, .ref 10, .ref 18, .ref 26, .ref 31, .ref 35, .ref 37, .int (nI rk)])), (1, .inr (0, [.ref 2, .ref 3, .ref 4, .int (skn s), .int (sdr s), .int (swa s), .int (sbu s), .int (sni s)])), (2, .inl (false, 6, sce s)), (3, .inl (false, 6, she s)), (4, .inl (false, 6, stu s)), (26, .inr (5, [.ref 27, .int y0, .int y1, .int y2, .int y3, .int y4, .int y5])), (27, .inr (0, [.ref 28, .ref 29, .ref 30, .int (skn t), .int (sdr t), .int (swa t), .int (sbu t), .int (sni t)])), (28, .inl (false, 6, sce t)), (29, .inl (false, 6, she t)), (30, .inl (false, 6, stu t))]) rfl) (Nat.le_of_ble_eq_true rfl) (fun _ _ hq9 => E_fgo ?_ hq9)
  show E _ _ 9 [.ref 0, .int (nI x), .int (nI m), .int 1, .null, .null, .null, .null, .null, .null] [.int (b2i (inL (Int32.toInt64 (nI x)) 0 9999))] (hov hp [(0, .inr (6, [.ref 1, .ref 5, .ref 7, .ref 10, .ref 18, .ref 26, .ref 31, .ref 35, .ref 37, .int (nI rk)])), (1, .inr (0, [.ref 2, .ref 3, .ref 4, .int (skn s), .int (sdr s), .int (swa s), .int (sbu s), .int (sni s)])), (2, .inl (false, 6, sce s)), (3, .inl (false, 6, she s)), (4, .inl (false, 6, stu s)), (26, .inr (5, [.ref 27, .int y0, .int y1, .int y2, .int y3, .int y4, .int y5])), (27, .inr (0, [.ref 28, .ref 29, .ref 30, .int (skn t), .int (sdr t), .int (swa t), .int (sbu t), .int (sni t)])), (28, .inl (false, 6, sce t)), (29, .inl (false, 6, she t)), (30, .inl (false, 6, stu t))]) _
  refine E_if_eq (tgt := 36) dX6_year_9 (by decide) (fun c => (b2i_x1 h0 c).elim) (fun _ => ?_)
  refine E_iload_n dX6_year_12 rfl ?_
  refine E_i2l dX6_year_13 ?_
  refine E_lconst (v := 1) dX6_year_14 (by decide) ?_
  refine E_ldc2 dX6_year_15 qX6_252 ?_
  refine E_callS (As := [.long (Int32.toInt64 (nI m)), .long 1, .long 99]) (l' := [.long (Int32.toInt64 (nI m)), .null, .long 1, .null, .long 99, .null]) (st := []) dX6_year_18 kX6_73 sX6_isIn MX6_isIn rfl rfl (Nat.le_of_ble_eq_true rfl) (FC.use (c_isIn (d + 5) _ _ _) rfl (L2 := [(0, .inr (6, [.ref 1, .ref 5, .ref 7, .ref 10, .ref 18, .ref 26, .ref 31, .ref 35, .ref 37, .int (nI rk)])), (1, .inr (0, [.ref 2, .ref 3, .ref 4, .int (skn s), .int (sdr s), .int (swa s), .int (sbu s), .int (sni s)])), (2, .inl (false, 6, sce s)), (3, .inl (false, 6, she s)), (4, .inl (false, 6, stu s)), (26, .inr (5, [.ref 27, .int y0, .int y1, .int y2, .int y3, .int y4, .int y5])), (27, .inr (0, [.ref 28, .ref 29, .ref 30, .int (skn t), .int (sdr t), .int (swa t), .int (sbu t), .int (sni t)])), (28, .inl (false, 6, sce t)), (29, .inl (false, 6, she t)), (30, .inl (false, 6, stu t))]) rfl) (Nat.le_of_ble_eq_true rfl) (fun _ _ hq9 => E_fgo ?_ hq9)
  show E _ _ 21 [.ref 0, .int (nI x), .int (nI m), .int 1, .null, .null, .null, .null, .null, .null] [.int (b2i (inL (Int32.toInt64 (nI m)) 1 99))] (hov hp [(0, .inr (6, [.ref 1, .ref 5, .ref 7, .ref 10, .ref 18, .ref 26, .ref 31, .ref 35, .ref 37, .int (nI rk)])), (1, .inr (0, [.ref 2, .ref 3, .ref 4, .int (skn s), .int (sdr s), .int (swa s), .int (sbu s), .int (sni s)])), (2, .inl (false, 6, sce s)), (3, .inl (false, 6, she s)), (4, .inl (false, 6, stu s)), (26, .inr (5, [.ref 27, .int y0, .int y1, .int y2, .int y3, .int y4, .int y5])), (27, .inr (0, [.ref 28, .ref 29, .ref 30, .int (skn t), .int (sdr t), .int (swa t), .int (sbu t), .int (sni t)])), (28, .inl (false, 6, sce t)), (29, .inl (false, 6, she t)), (30, .inl (false, 6, stu t))]) _
  refine E_if_eq (tgt := 36) dX6_year_21 (by decide) (fun c => (b2i_x1 h1 c).elim) (fun _ => ?_)
  refine E_iload_n dX6_year_24 rfl ?_
  refine E_i2l dX6_year_25 ?_
  refine E_lconst (v := 0) dX6_year_26 (by decide) ?_
  refine E_ldc2 dX6_year_27 qX6_138 ?_
  refine E_callS (As := [.long (Int32.toInt64 1), .long 0, .long 2]) (l' := [.long (Int32.toInt64 1), .null, .long 0, .null, .long 2, .null]) (st := []) dX6_year_30 kX6_73 sX6_isIn MX6_isIn rfl rfl (Nat.le_of_ble_eq_true rfl) (FC.use (c_isIn (d + 5) _ _ _) rfl (L2 := [(0, .inr (6, [.ref 1, .ref 5, .ref 7, .ref 10, .ref 18, .ref 26, .ref 31, .ref 35, .ref 37, .int (nI rk)])), (1, .inr (0, [.ref 2, .ref 3, .ref 4, .int (skn s), .int (sdr s), .int (swa s), .int (sbu s), .int (sni s)])), (2, .inl (false, 6, sce s)), (3, .inl (false, 6, she s)), (4, .inl (false, 6, stu s)), (26, .inr (5, [.ref 27, .int y0, .int y1, .int y2, .int y3, .int y4, .int y5])), (27, .inr (0, [.ref 28, .ref 29, .ref 30, .int (skn t), .int (sdr t), .int (swa t), .int (sbu t), .int (sni t)])), (28, .inl (false, 6, sce t)), (29, .inl (false, 6, she t)), (30, .inl (false, 6, stu t))]) rfl) (Nat.le_of_ble_eq_true rfl) (fun _ _ hq9 => E_fgo ?_ hq9)
  show E _ _ 33 [.ref 0, .int (nI x), .int (nI m), .int 1, .null, .null, .null, .null, .null, .null] [.int (b2i (inL (Int32.toInt64 1) 0 2))] (hov hp [(0, .inr (6, [.ref 1, .ref 5, .ref 7, .ref 10, .ref 18, .ref 26, .ref 31, .ref 35, .ref 37, .int (nI rk)])), (1, .inr (0, [.ref 2, .ref 3, .ref 4, .int (skn s), .int (sdr s), .int (swa s), .int (sbu s), .int (sni s)])), (2, .inl (false, 6, sce s)), (3, .inl (false, 6, she s)), (4, .inl (false, 6, stu s)), (26, .inr (5, [.ref 27, .int y0, .int y1, .int y2, .int y3, .int y4, .int y5])), (27, .inr (0, [.ref 28, .ref 29, .ref 30, .int (skn t), .int (sdr t), .int (swa t), .int (sbu t), .int (sni t)])), (28, .inl (false, 6, sce t)), (29, .inl (false, 6, she t)), (30, .inl (false, 6, stu t))]) _
  refine E_if_ne (tgt := 39) dX6_year_33 (by decide) (fun _ => ?_) (fun c => (b2i_x1 (by decide) c).elim)
  refine E_aload_n dX6_year_39 rfl ?_
  refine E_get dX6_year_40 fX6_43 (by decide) rfl rfl ?_
  refine E_get dX6_year_43 fX6_128 (by decide) rfl rfl ?_
  refine E_astore (l2 := [.ref 0, .int (nI x), .int (nI m), .int 1, .ref 27, .null, .null, .null, .null, .null]) dX6_year_46 (by decide) rfl ?_
  refine E_aload dX6_year_48 rfl ?_
  refine E_aload_n dX6_year_50 rfl ?_
  refine E_get dX6_year_51 fX6_12 (by decide) rfl rfl ?_
  refine E_callV (As := [.ref 1]) (l' := [.ref 27, .ref 1, .null]) (st := []) dX6_year_54 kX6_131 iX0_copyFrom vX0_copyFrom (by decide) rfl rfl MX0_copyFrom rfl rfl (Nat.le_of_ble_eq_true rfl) (FC.use (c_copy_27_1 (d + 5) t s hA) rfl (L2 := [(0, .inr (6, [.ref 1, .ref 5, .ref 7, .ref 10, .ref 18, .ref 26, .ref 31, .ref 35, .ref 37, .int (nI rk)])), (1, .inr (0, [.ref 2, .ref 3, .ref 4, .int (skn s), .int (sdr s), .int (swa s), .int (sbu s), .int (sni s)])), (2, .inl (false, 6, sce s)), (3, .inl (false, 6, she s)), (4, .inl (false, 6, stu s)), (26, .inr (5, [.ref 27, .int y0, .int y1, .int y2, .int y3, .int y4, .int y5])), (27, .inr (0, [.ref 28, .ref 29, .ref 30, .int (skn s), .int (sdr s), .int (swa s), .int (sbu s), .int (sni s)])), (28, .inl (false, 6, sce s)), (29, .inl (false, 6, she s)), (30, .inl (false, 6, stu s))]) rfl) (Nat.le_of_ble_eq_true rfl) (fun _ _ hq9 => E_fgo ?_ hq9)
  show E _ _ 57 [.ref 0, .int (nI x), .int (nI m), .int 1, .ref 27, .null, .null, .null, .null, .null] [] (hov hp [(0, .inr (6, [.ref 1, .ref 5, .ref 7, .ref 10, .ref 18, .ref 26, .ref 31, .ref 35, .ref 37, .int (nI rk)])), (1, .inr (0, [.ref 2, .ref 3, .ref 4, .int (skn s), .int (sdr s), .int (swa s), .int (sbu s), .int (sni s)])), (2, .inl (false, 6, sce s)), (3, .inl (false, 6, she s)), (4, .inl (false, 6, stu s)), (26, .inr (5, [.ref 27, .int y0, .int y1, .int y2, .int y3, .int y4, .int y5])), (27, .inr (0, [.ref 28, .ref 29, .ref 30, .int (skn s), .int (sdr s), .int (swa s), .int (sbu s), .int (sni s)])), (28, .inl (false, 6, sce s)), (29, .inl (false, 6, she s)), (30, .inl (false, 6, stu s))]) _
  refine E_iload_n dX6_year_57 rfl ?_
  refine E_istore (l2 := [.ref 0, .int (nI x), .int (nI m), .int 1, .ref 27, .int (nI x), .null, .null, .null, .null]) dX6_year_58 (by decide) rfl ?_
  refine E_iconst (v := 0) dX6_year_60 (by decide) ?_
  refine E_istore (l2 := [.ref 0, .int (nI x), .int (nI m), .int 1, .ref 27, .int (nI x), .int 0, .null, .null, .null]) dX6_year_61 (by decide) rfl ?_
  have L63 : ∀ i, i ≤ m → ∀ l7 l8 l9 : Value, E YX6_year (d + 6) 63 [.ref 0, .int (nI x), .int (nI m), .int 1, .ref 27, .int (nI ((yr s x i).2)), .int (nI i), l7, l8, l9] [] (hov hp [(0, .inr (6, [.ref 1, .ref 5, .ref 7, .ref 10, .ref 18, .ref 26, .ref 31, .ref 35, .ref 37, .int (nI rk)])), (1, .inr (0, [.ref 2, .ref 3, .ref 4, .int (skn s), .int (sdr s), .int (swa s), .int (sbu s), .int (sni s)])), (2, .inl (false, 6, sce s)), (3, .inl (false, 6, she s)), (4, .inl (false, 6, stu s)), (26, .inr (5, [.ref 27, .int y0, .int y1, .int y2, .int y3, .int y4, .int y5])), (27, .inr (0, [.ref 28, .ref 29, .ref 30, .int (skn ((yr s x i).1)), .int (sdr ((yr s x i).1)), .int (swa ((yr s x i).1)), .int (sbu ((yr s x i).1)), .int (sni ((yr s x i).1))])), (28, .inl (false, 6, sce ((yr s x i).1))), (29, .inl (false, 6, she ((yr s x i).1))), (30, .inl (false, 6, stu ((yr s x i).1)))]) (fun v h' => v = some (.int (bcI (sdr (yr s x m).1))) ∧ h' = hov hp [(0, .inr (6, [.ref 1, .ref 5, .ref 7, .ref 10, .ref 18, .ref 26, .ref 31, .ref 35, .ref 37, .int (nI rk)])), (1, .inr (0, [.ref 2, .ref 3, .ref 4, .int (skn s), .int (sdr s), .int (swa s), .int (sbu s), .int (sni s)])), (2, .inl (false, 6, sce s)), (3, .inl (false, 6, she s)), (4, .inl (false, 6, stu s)), (26, .inr (5, [.ref 27, .int y0, .int y1, .int y2, .int y3, .int y4, .int y5])), (27, .inr (0, [.ref 28, .ref 29, .ref 30, .int (skn ((yr s x m).1)), .int (sdr ((yr s x m).1)), .int (swa ((yr s x m).1)), .int (sbu ((yr s x m).1)), .int (sni ((yr s x m).1))])), (28, .inl (false, 6, sce ((yr s x m).1))), (29, .inl (false, 6, she ((yr s x m).1))), (30, .inl (false, 6, stu ((yr s x m).1)))]) := by
    refine down m ?_ ?_
    · intro l7 l8 l9
      refine E_iload dX6_year_63 rfl ?_
      refine E_iload_n dX6_year_65 rfl ?_
      refine E_icmp_ge (tgt := 147) dX6_year_66 (by decide) (fun _ => ?_) (fun c => absurd (nI_le (Nat.le_refl _) (by omega)) c)
      refine E_iload_n dX6_year_147 rfl ?_
      refine E_lookup (off := 37) (tgt := 185) dX6_year_148 (by decide) (by decide) (by decide) ?_
      refine E_aload dX6_year_185 rfl ?_
      refine E_get dX6_year_187 fX6_149 (by decide) rfl rfl ?_
      refine E_callS (As := [.int (sdr ((yr s x m).1))]) (l' := [.int (sdr ((yr s x m).1))]) (st := []) dX6_year_190 kX6_95 sJ6_bitCount_0f7a4 MJ6_bitCount_0f7a4 rfl rfl (Nat.le_of_ble_eq_true rfl) (FC.use (c_bitCount (d + 5) _) rfl (L2 := [(0, .inr (6, [.ref 1, .ref 5, .ref 7, .ref 10, .ref 18, .ref 26, .ref 31, .ref 35, .ref 37, .int (nI rk)])), (1, .inr (0, [.ref 2, .ref 3, .ref 4, .int (skn s), .int (sdr s), .int (swa s), .int (sbu s), .int (sni s)])), (2, .inl (false, 6, sce s)), (3, .inl (false, 6, she s)), (4, .inl (false, 6, stu s)), (26, .inr (5, [.ref 27, .int y0, .int y1, .int y2, .int y3, .int y4, .int y5])), (27, .inr (0, [.ref 28, .ref 29, .ref 30, .int (skn ((yr s x m).1)), .int (sdr ((yr s x m).1)), .int (swa ((yr s x m).1)), .int (sbu ((yr s x m).1)), .int (sni ((yr s x m).1))])), (28, .inl (false, 6, sce ((yr s x m).1))), (29, .inl (false, 6, she ((yr s x m).1))), (30, .inl (false, 6, stu ((yr s x m).1)))]) rfl) (Nat.le_of_ble_eq_true rfl) (fun _ _ hq9 => E_fgo ?_ hq9)
      show E _ _ 193 [.ref 0, .int (nI x), .int (nI m), .int 1, .ref 27, .int (nI ((yr s x m).2)), .int (nI m), l7, l8, l9] [.int (bcI (sdr ((yr s x m).1)))] (hov hp [(0, .inr (6, [.ref 1, .ref 5, .ref 7, .ref 10, .ref 18, .ref 26, .ref 31, .ref 35, .ref 37, .int (nI rk)])), (1, .inr (0, [.ref 2, .ref 3, .ref 4, .int (skn s), .int (sdr s), .int (swa s), .int (sbu s), .int (sni s)])), (2, .inl (false, 6, sce s)), (3, .inl (false, 6, she s)), (4, .inl (false, 6, stu s)), (26, .inr (5, [.ref 27, .int y0, .int y1, .int y2, .int y3, .int y4, .int y5])), (27, .inr (0, [.ref 28, .ref 29, .ref 30, .int (skn ((yr s x m).1)), .int (sdr ((yr s x m).1)), .int (swa ((yr s x m).1)), .int (sbu ((yr s x m).1)), .int (sni ((yr s x m).1))])), (28, .inl (false, 6, sce ((yr s x m).1))), (29, .inl (false, 6, she ((yr s x m).1))), (30, .inl (false, 6, stu ((yr s x m).1)))]) _
      exact E_iretf dX6_year_193 rfl rfl rfl rfl
    · intro i hi ih l7 l8 l9
      have hX := yr_lt (s := s) (seed := x) (by omega) i
      have hY : yX (yr s x i).2 < 65537 := Nat.mod_lt _ (by decide)
      generalize hy : yX (yr s x i).2 = y at hY
      have eS : (yr s x (i + 1)).1 = yN (yr s x i).1 y := by rw [← hy]; rfl
      have eX : (yr s x (i + 1)).2 = y := by rw [← hy]; rfl
      rw [eS, eX] at ih
      generalize (yr s x i).1 = z at ih ⊢
      have hk : y / 6 % 8 = 0 ∨ y / 6 % 8 = 1 ∨ y / 6 % 8 = 2 ∨ y / 6 % 8 = 3 ∨ y / 6 % 8 = 4 ∨ 5 ≤ y / 6 % 8 := by omega
      rcases hk with hk | hk | hk | hk | hk | hk
      · refine E_iload dX6_year_63 rfl ?_
        refine E_iload_n dX6_year_65 rfl ?_
        refine E_icmp_ge (tgt := 147) dX6_year_66 (by decide) (fun c => absurd c (nI_ge hi (by omega))) (fun _ => ?_)
        refine E_bipush (v := 75) dX6_year_69 (by decide) ?_
        refine E_iload dX6_year_71 rfl ?_
        refine E_imul dX6_year_73 ?_
        refine E_bipush (v := 74) dX6_year_74 (by decide) ?_
        refine E_iadd dX6_year_76 ?_
        refine E_ldc dX6_year_77 qX6_254 ?_
        refine E_irem dX6_year_79 (by decide) ?_
        refine E_eqi (y := nI y) (by rw [← hy]; exact yX_m hX) ?_
        refine E_istore (l2 := [.ref 0, .int (nI x), .int (nI m), .int 1, .ref 27, .int (nI y), .int (nI i), l7, l8, l9]) dX6_year_80 (by decide) rfl ?_
        refine E_iload dX6_year_82 rfl ?_
        refine E_bipush (v := 6) dX6_year_84 (by decide) ?_
        refine E_callS (As := [.int (nI y), .int 6]) (l' := [.int (nI y), .int 6, .null]) (st := []) dX6_year_86 kX6_255 sJ9_floorMod_7cf53 MJ9_floorMod_7cf53 rfl rfl (Nat.le_of_ble_eq_true rfl) (FC.use (c_fmod6 (d + 5) y (by omega)) rfl (L2 := [(0, .inr (6, [.ref 1, .ref 5, .ref 7, .ref 10, .ref 18, .ref 26, .ref 31, .ref 35, .ref 37, .int (nI rk)])), (1, .inr (0, [.ref 2, .ref 3, .ref 4, .int (skn s), .int (sdr s), .int (swa s), .int (sbu s), .int (sni s)])), (2, .inl (false, 6, sce s)), (3, .inl (false, 6, she s)), (4, .inl (false, 6, stu s)), (26, .inr (5, [.ref 27, .int y0, .int y1, .int y2, .int y3, .int y4, .int y5])), (27, .inr (0, [.ref 28, .ref 29, .ref 30, .int (skn z), .int (sdr z), .int (swa z), .int (sbu z), .int (sni z)])), (28, .inl (false, 6, sce z)), (29, .inl (false, 6, she z)), (30, .inl (false, 6, stu z))]) rfl) (Nat.le_of_ble_eq_true rfl) (fun _ _ hq9 => E_fgo ?_ hq9)
        show E _ _ 89 [.ref 0, .int (nI x), .int (nI m), .int 1, .ref 27, .int (nI y), .int (nI i), l7, l8, l9] [.int (nI (y % 6))] (hov hp [(0, .inr (6, [.ref 1, .ref 5, .ref 7, .ref 10, .ref 18, .ref 26, .ref 31, .ref 35, .ref 37, .int (nI rk)])), (1, .inr (0, [.ref 2, .ref 3, .ref 4, .int (skn s), .int (sdr s), .int (swa s), .int (sbu s), .int (sni s)])), (2, .inl (false, 6, sce s)), (3, .inl (false, 6, she s)), (4, .inl (false, 6, stu s)), (26, .inr (5, [.ref 27, .int y0, .int y1, .int y2, .int y3, .int y4, .int y5])), (27, .inr (0, [.ref 28, .ref 29, .ref 30, .int (skn z), .int (sdr z), .int (swa z), .int (sbu z), .int (sni z)])), (28, .inl (false, 6, sce z)), (29, .inl (false, 6, she z)), (30, .inl (false, 6, stu z))]) _
        refine E_istore (l2 := [.ref 0, .int (nI x), .int (nI m), .int 1, .ref 27, .int (nI y), .int (nI i), .int (nI (y % 6)), l8, l9]) dX6_year_89 (by decide) rfl ?_
        refine E_iload dX6_year_91 rfl ?_
        refine E_bipush (v := 6) dX6_year_93 (by decide) ?_
        refine E_idiv dX6_year_95 (by decide) ?_
        refine E_eqi (y := nI (y / 6)) (nI_d (by omega) (by decide) (by decide)) ?_
        refine E_bipush (v := 8) dX6_year_96 (by decide) ?_
        refine E_irem dX6_year_98 (by decide) ?_
        refine E_eqi (y := nI (y / 6 % 8)) (nI_r (by omega) (by decide) (by decide)) ?_
        refine E_iconst (v := 5) dX6_year_99 (by decide) ?_
        refine E_Mmin dX6_year_100 kX6_258 (Nat.le_of_ble_eq_true rfl) ?_
        refine E_eqi (y := 0) (by rw [hk]; decide) ?_
        refine E_istore (l2 := [.ref 0, .int (nI x), .int (nI m), .int 1, .ref 27, .int (nI y), .int (nI i), .int (nI (y % 6)), .int 0, l9]) dX6_year_103 (by decide) rfl ?_
        refine E_iload dX6_year_105 rfl ?_
        refine E_bipush (v := 48) dX6_year_107 (by decide) ?_
        refine E_idiv dX6_year_109 (by decide) ?_
        refine E_eqi (y := nI (y / 48)) (nI_d (by omega) (by decide) (by decide)) ?_
        refine E_bipush (v := 25) dX6_year_110 (by decide) ?_
        refine E_irem dX6_year_112 (by decide) ?_
        refine E_eqi (y := nI (y / 48 % 25)) (nI_r (by omega) (by decide) (by decide)) ?_
        refine E_istore (l2 := [.ref 0, .int (nI x), .int (nI m), .int 1, .ref 27, .int (nI y), .int (nI i), .int (nI (y % 6)), .int 0, .int (nI (y / 48 % 25))]) dX6_year_113 (by decide) rfl ?_
        refine E_aload dX6_year_115 rfl ?_
        refine E_iload dX6_year_117 rfl ?_
        refine E_iload dX6_year_119 rfl ?_
        refine E_iload dX6_year_121 rfl ?_
        refine E_callV (As := [.int 0, .int (nI (y % 6)), .int (nI (y / 48 % 25))]) (l' := [.ref 27, .int 0, .int (nI (y % 6)), .int (nI (y / 48 % 25))]) (st := []) dX6_year_123 kX6_261 iX0_reasonAgainst vX0_reasonAgainst (by decide) rfl rfl MX0_reasonAgainst rfl rfl (Nat.le_of_ble_eq_true rfl) (FC.use (c_reason_0 (d + 4) z (y % 6) (by omega) (nI (y / 48 % 25))) rfl (L2 := [(0, .inr (6, [.ref 1, .ref 5, .ref 7, .ref 10, .ref 18, .ref 26, .ref 31, .ref 35, .ref 37, .int (nI rk)])), (1, .inr (0, [.ref 2, .ref 3, .ref 4, .int (skn s), .int (sdr s), .int (swa s), .int (sbu s), .int (sni s)])), (2, .inl (false, 6, sce s)), (3, .inl (false, 6, she s)), (4, .inl (false, 6, stu s)), (26, .inr (5, [.ref 27, .int y0, .int y1, .int y2, .int y3, .int y4, .int y5])), (27, .inr (0, [.ref 28, .ref 29, .ref 30, .int (skn z), .int (sdr z), .int (swa z), .int (sbu z), .int (sni z)])), (28, .inl (false, 6, sce z)), (29, .inl (false, 6, she z)), (30, .inl (false, 6, stu z))]) rfl) (Nat.le_of_ble_eq_true rfl) (fun _ _ hq9 => E_fgo ?_ hq9)
        show E _ _ 126 [.ref 0, .int (nI x), .int (nI m), .int 1, .ref 27, .int (nI y), .int (nI i), .int (nI (y % 6)), .int 0, .int (nI (y / 48 % 25))] [.int (rsn z 0 (y % 6) (nI (y / 48 % 25)))] (hov hp [(0, .inr (6, [.ref 1, .ref 5, .ref 7, .ref 10, .ref 18, .ref 26, .ref 31, .ref 35, .ref 37, .int (nI rk)])), (1, .inr (0, [.ref 2, .ref 3, .ref 4, .int (skn s), .int (sdr s), .int (swa s), .int (sbu s), .int (sni s)])), (2, .inl (false, 6, sce s)), (3, .inl (false, 6, she s)), (4, .inl (false, 6, stu s)), (26, .inr (5, [.ref 27, .int y0, .int y1, .int y2, .int y3, .int y4, .int y5])), (27, .inr (0, [.ref 28, .ref 29, .ref 30, .int (skn z), .int (sdr z), .int (swa z), .int (sbu z), .int (sni z)])), (28, .inl (false, 6, sce z)), (29, .inl (false, 6, she z)), (30, .inl (false, 6, stu z))]) _
        refine E_if_ne (tgt := 141) dX6_year_126 (by decide) (fun c126 => ?_) (fun c126 => ?_)
        · refine E_iinc (y := nI (i + 1)) (l2 := [.ref 0, .int (nI x), .int (nI m), .int 1, .ref 27, .int (nI y), .int (nI (i + 1)), .int (nI (y % 6)), .int 0, .int (nI (y / 48 % 25))]) dX6_year_141 rfl (nI_1 _) (by decide) rfl ?_
          refine E_goto (tgt := 63) dX6_year_144 (by decide) ?_
          have e9 := ih (.int (nI (y % 6))) (.int 0) (.int (nI (y / 48 % 25)))
          rw [show yN z y = z from by rw [yN, show yK y = 0 from (by rw [yK, hk]; rfl), if_neg c126]] at e9
          exact e9
        · refine E_aload dX6_year_129 rfl ?_
          refine E_iload dX6_year_131 rfl ?_
          refine E_iload dX6_year_133 rfl ?_
          refine E_iload dX6_year_135 rfl ?_
          refine E_callV (As := [.int 0, .int (nI (y % 6)), .int (nI (y / 48 % 25))]) (l' := [.ref 27, .int 0, .int (nI (y % 6)), .int (nI (y / 48 % 25))]) (st := []) dX6_year_137 kX6_264 iX0_perform vX0_perform (by decide) rfl rfl MX0_perform rfl rfl (Nat.le_of_ble_eq_true rfl) (FC.use (c_perform_0 (d + 1) z (y % 6) (by omega) (nI (y / 48 % 25))) rfl (L2 := [(0, .inr (6, [.ref 1, .ref 5, .ref 7, .ref 10, .ref 18, .ref 26, .ref 31, .ref 35, .ref 37, .int (nI rk)])), (1, .inr (0, [.ref 2, .ref 3, .ref 4, .int (skn s), .int (sdr s), .int (swa s), .int (sbu s), .int (sni s)])), (2, .inl (false, 6, sce s)), (3, .inl (false, 6, she s)), (4, .inl (false, 6, stu s)), (26, .inr (5, [.ref 27, .int y0, .int y1, .int y2, .int y3, .int y4, .int y5])), (27, .inr (0, [.ref 28, .ref 29, .ref 30, .int (skn (prS z 0 (y % 6) (nI (y / 48 % 25)))), .int (sdr (prS z 0 (y % 6) (nI (y / 48 % 25)))), .int (swa (prS z 0 (y % 6) (nI (y / 48 % 25)))), .int (sbu (prS z 0 (y % 6) (nI (y / 48 % 25)))), .int (sni (prS z 0 (y % 6) (nI (y / 48 % 25))))])), (28, .inl (false, 6, sce (prS z 0 (y % 6) (nI (y / 48 % 25))))), (29, .inl (false, 6, she (prS z 0 (y % 6) (nI (y / 48 % 25))))), (30, .inl (false, 6, stu (prS z 0 (y % 6) (nI (y / 48 % 25)))))]) rfl) (Nat.le_of_ble_eq_true rfl) (fun _ _ hq9 => E_fgo ?_ hq9)
          show E _ _ 140 [.ref 0, .int (nI x), .int (nI m), .int 1, .ref 27, .int (nI y), .int (nI i), .int (nI (y % 6)), .int 0, .int (nI (y / 48 % 25))] [.int (prF z 0)] (hov hp [(0, .inr (6, [.ref 1, .ref 5, .ref 7, .ref 10, .ref 18, .ref 26, .ref 31, .ref 35, .ref 37, .int (nI rk)])), (1, .inr (0, [.ref 2, .ref 3, .ref 4, .int (skn s), .int (sdr s), .int (swa s), .int (sbu s), .int (sni s)])), (2, .inl (false, 6, sce s)), (3, .inl (false, 6, she s)), (4, .inl (false, 6, stu s)), (26, .inr (5, [.ref 27, .int y0, .int y1, .int y2, .int y3, .int y4, .int y5])), (27, .inr (0, [.ref 28, .ref 29, .ref 30, .int (skn (prS z 0 (y % 6) (nI (y / 48 % 25)))), .int (sdr (prS z 0 (y % 6) (nI (y / 48 % 25)))), .int (swa (prS z 0 (y % 6) (nI (y / 48 % 25)))), .int (sbu (prS z 0 (y % 6) (nI (y / 48 % 25)))), .int (sni (prS z 0 (y % 6) (nI (y / 48 % 25))))])), (28, .inl (false, 6, sce (prS z 0 (y % 6) (nI (y / 48 % 25))))), (29, .inl (false, 6, she (prS z 0 (y % 6) (nI (y / 48 % 25))))), (30, .inl (false, 6, stu (prS z 0 (y % 6) (nI (y / 48 % 25)))))]) _
          refine E_pop dX6_year_140 rfl ?_
          refine E_iinc (y := nI (i + 1)) (l2 := [.ref 0, .int (nI x), .int (nI m), .int 1, .ref 27, .int (nI y), .int (nI (i + 1)), .int (nI (y % 6)), .int 0, .int (nI (y / 48 % 25))]) dX6_year_141 rfl (nI_1 _) (by decide) rfl ?_
          refine E_goto (tgt := 63) dX6_year_144 (by decide) ?_
          have e9 := ih (.int (nI (y % 6))) (.int 0) (.int (nI (y / 48 % 25)))
          rw [show yN z y = prS z 0 (y % 6) (nI (y / 48 % 25)) from by rw [yN, show yK y = 0 from (by rw [yK, hk]; rfl), if_pos c126]] at e9
          exact e9
      · refine E_iload dX6_year_63 rfl ?_
        refine E_iload_n dX6_year_65 rfl ?_
        refine E_icmp_ge (tgt := 147) dX6_year_66 (by decide) (fun c => absurd c (nI_ge hi (by omega))) (fun _ => ?_)
        refine E_bipush (v := 75) dX6_year_69 (by decide) ?_
        refine E_iload dX6_year_71 rfl ?_
        refine E_imul dX6_year_73 ?_
        refine E_bipush (v := 74) dX6_year_74 (by decide) ?_
        refine E_iadd dX6_year_76 ?_
        refine E_ldc dX6_year_77 qX6_254 ?_
        refine E_irem dX6_year_79 (by decide) ?_
        refine E_eqi (y := nI y) (by rw [← hy]; exact yX_m hX) ?_
        refine E_istore (l2 := [.ref 0, .int (nI x), .int (nI m), .int 1, .ref 27, .int (nI y), .int (nI i), l7, l8, l9]) dX6_year_80 (by decide) rfl ?_
        refine E_iload dX6_year_82 rfl ?_
        refine E_bipush (v := 6) dX6_year_84 (by decide) ?_
        refine E_callS (As := [.int (nI y), .int 6]) (l' := [.int (nI y), .int 6, .null]) (st := []) dX6_year_86 kX6_255 sJ9_floorMod_7cf53 MJ9_floorMod_7cf53 rfl rfl (Nat.le_of_ble_eq_true rfl) (FC.use (c_fmod6 (d + 5) y (by omega)) rfl (L2 := [(0, .inr (6, [.ref 1, .ref 5, .ref 7, .ref 10, .ref 18, .ref 26, .ref 31, .ref 35, .ref 37, .int (nI rk)])), (1, .inr (0, [.ref 2, .ref 3, .ref 4, .int (skn s), .int (sdr s), .int (swa s), .int (sbu s), .int (sni s)])), (2, .inl (false, 6, sce s)), (3, .inl (false, 6, she s)), (4, .inl (false, 6, stu s)), (26, .inr (5, [.ref 27, .int y0, .int y1, .int y2, .int y3, .int y4, .int y5])), (27, .inr (0, [.ref 28, .ref 29, .ref 30, .int (skn z), .int (sdr z), .int (swa z), .int (sbu z), .int (sni z)])), (28, .inl (false, 6, sce z)), (29, .inl (false, 6, she z)), (30, .inl (false, 6, stu z))]) rfl) (Nat.le_of_ble_eq_true rfl) (fun _ _ hq9 => E_fgo ?_ hq9)
        show E _ _ 89 [.ref 0, .int (nI x), .int (nI m), .int 1, .ref 27, .int (nI y), .int (nI i), l7, l8, l9] [.int (nI (y % 6))] (hov hp [(0, .inr (6, [.ref 1, .ref 5, .ref 7, .ref 10, .ref 18, .ref 26, .ref 31, .ref 35, .ref 37, .int (nI rk)])), (1, .inr (0, [.ref 2, .ref 3, .ref 4, .int (skn s), .int (sdr s), .int (swa s), .int (sbu s), .int (sni s)])), (2, .inl (false, 6, sce s)), (3, .inl (false, 6, she s)), (4, .inl (false, 6, stu s)), (26, .inr (5, [.ref 27, .int y0, .int y1, .int y2, .int y3, .int y4, .int y5])), (27, .inr (0, [.ref 28, .ref 29, .ref 30, .int (skn z), .int (sdr z), .int (swa z), .int (sbu z), .int (sni z)])), (28, .inl (false, 6, sce z)), (29, .inl (false, 6, she z)), (30, .inl (false, 6, stu z))]) _
        refine E_istore (l2 := [.ref 0, .int (nI x), .int (nI m), .int 1, .ref 27, .int (nI y), .int (nI i), .int (nI (y % 6)), l8, l9]) dX6_year_89 (by decide) rfl ?_
        refine E_iload dX6_year_91 rfl ?_
        refine E_bipush (v := 6) dX6_year_93 (by decide) ?_
        refine E_idiv dX6_year_95 (by decide) ?_
        refine E_eqi (y := nI (y / 6)) (nI_d (by omega) (by decide) (by decide)) ?_
        refine E_bipush (v := 8) dX6_year_96 (by decide) ?_
        refine E_irem dX6_year_98 (by decide) ?_
        refine E_eqi (y := nI (y / 6 % 8)) (nI_r (by omega) (by decide) (by decide)) ?_
        refine E_iconst (v := 5) dX6_year_99 (by decide) ?_
        refine E_Mmin dX6_year_100 kX6_258 (Nat.le_of_ble_eq_true rfl) ?_
        refine E_eqi (y := 1) (by rw [hk]; decide) ?_
        refine E_istore (l2 := [.ref 0, .int (nI x), .int (nI m), .int 1, .ref 27, .int (nI y), .int (nI i), .int (nI (y % 6)), .int 1, l9]) dX6_year_103 (by decide) rfl ?_
        refine E_iload dX6_year_105 rfl ?_
        refine E_bipush (v := 48) dX6_year_107 (by decide) ?_
        refine E_idiv dX6_year_109 (by decide) ?_
        refine E_eqi (y := nI (y / 48)) (nI_d (by omega) (by decide) (by decide)) ?_
        refine E_bipush (v := 25) dX6_year_110 (by decide) ?_
        refine E_irem dX6_year_112 (by decide) ?_
        refine E_eqi (y := nI (y / 48 % 25)) (nI_r (by omega) (by decide) (by decide)) ?_
        refine E_istore (l2 := [.ref 0, .int (nI x), .int (nI m), .int 1, .ref 27, .int (nI y), .int (nI i), .int (nI (y % 6)), .int 1, .int (nI (y / 48 % 25))]) dX6_year_113 (by decide) rfl ?_
        refine E_aload dX6_year_115 rfl ?_
        refine E_iload dX6_year_117 rfl ?_
        refine E_iload dX6_year_119 rfl ?_
        refine E_iload dX6_year_121 rfl ?_
        refine E_callV (As := [.int 1, .int (nI (y % 6)), .int (nI (y / 48 % 25))]) (l' := [.ref 27, .int 1, .int (nI (y % 6)), .int (nI (y / 48 % 25))]) (st := []) dX6_year_123 kX6_261 iX0_reasonAgainst vX0_reasonAgainst (by decide) rfl rfl MX0_reasonAgainst rfl rfl (Nat.le_of_ble_eq_true rfl) (FC.use (c_reason_1 (d + 4) z (y % 6) (by omega) (nI (y / 48 % 25))) rfl (L2 := [(0, .inr (6, [.ref 1, .ref 5, .ref 7, .ref 10, .ref 18, .ref 26, .ref 31, .ref 35, .ref 37, .int (nI rk)])), (1, .inr (0, [.ref 2, .ref 3, .ref 4, .int (skn s), .int (sdr s), .int (swa s), .int (sbu s), .int (sni s)])), (2, .inl (false, 6, sce s)), (3, .inl (false, 6, she s)), (4, .inl (false, 6, stu s)), (26, .inr (5, [.ref 27, .int y0, .int y1, .int y2, .int y3, .int y4, .int y5])), (27, .inr (0, [.ref 28, .ref 29, .ref 30, .int (skn z), .int (sdr z), .int (swa z), .int (sbu z), .int (sni z)])), (28, .inl (false, 6, sce z)), (29, .inl (false, 6, she z)), (30, .inl (false, 6, stu z))]) rfl) (Nat.le_of_ble_eq_true rfl) (fun _ _ hq9 => E_fgo ?_ hq9)
        show E _ _ 126 [.ref 0, .int (nI x), .int (nI m), .int 1, .ref 27, .int (nI y), .int (nI i), .int (nI (y % 6)), .int 1, .int (nI (y / 48 % 25))] [.int (rsn z 1 (y % 6) (nI (y / 48 % 25)))] (hov hp [(0, .inr (6, [.ref 1, .ref 5, .ref 7, .ref 10, .ref 18, .ref 26, .ref 31, .ref 35, .ref 37, .int (nI rk)])), (1, .inr (0, [.ref 2, .ref 3, .ref 4, .int (skn s), .int (sdr s), .int (swa s), .int (sbu s), .int (sni s)])), (2, .inl (false, 6, sce s)), (3, .inl (false, 6, she s)), (4, .inl (false, 6, stu s)), (26, .inr (5, [.ref 27, .int y0, .int y1, .int y2, .int y3, .int y4, .int y5])), (27, .inr (0, [.ref 28, .ref 29, .ref 30, .int (skn z), .int (sdr z), .int (swa z), .int (sbu z), .int (sni z)])), (28, .inl (false, 6, sce z)), (29, .inl (false, 6, she z)), (30, .inl (false, 6, stu z))]) _
        refine E_if_ne (tgt := 141) dX6_year_126 (by decide) (fun c126 => ?_) (fun c126 => ?_)
        · refine E_iinc (y := nI (i + 1)) (l2 := [.ref 0, .int (nI x), .int (nI m), .int 1, .ref 27, .int (nI y), .int (nI (i + 1)), .int (nI (y % 6)), .int 1, .int (nI (y / 48 % 25))]) dX6_year_141 rfl (nI_1 _) (by decide) rfl ?_
          refine E_goto (tgt := 63) dX6_year_144 (by decide) ?_
          have e9 := ih (.int (nI (y % 6))) (.int 1) (.int (nI (y / 48 % 25)))
          rw [show yN z y = z from by rw [yN, show yK y = 1 from (by rw [yK, hk]; rfl), if_neg c126]] at e9
          exact e9
        · refine E_aload dX6_year_129 rfl ?_
          refine E_iload dX6_year_131 rfl ?_
          refine E_iload dX6_year_133 rfl ?_
          refine E_iload dX6_year_135 rfl ?_
          refine E_callV (As := [.int 1, .int (nI (y % 6)), .int (nI (y / 48 % 25))]) (l' := [.ref 27, .int 1, .int (nI (y % 6)), .int (nI (y / 48 % 25))]) (st := []) dX6_year_137 kX6_264 iX0_perform vX0_perform (by decide) rfl rfl MX0_perform rfl rfl (Nat.le_of_ble_eq_true rfl) (FC.use (c_perform_1 (d + 1) z (y % 6) (by omega) (nI (y / 48 % 25))) rfl (L2 := [(0, .inr (6, [.ref 1, .ref 5, .ref 7, .ref 10, .ref 18, .ref 26, .ref 31, .ref 35, .ref 37, .int (nI rk)])), (1, .inr (0, [.ref 2, .ref 3, .ref 4, .int (skn s), .int (sdr s), .int (swa s), .int (sbu s), .int (sni s)])), (2, .inl (false, 6, sce s)), (3, .inl (false, 6, she s)), (4, .inl (false, 6, stu s)), (26, .inr (5, [.ref 27, .int y0, .int y1, .int y2, .int y3, .int y4, .int y5])), (27, .inr (0, [.ref 28, .ref 29, .ref 30, .int (skn (prS z 1 (y % 6) (nI (y / 48 % 25)))), .int (sdr (prS z 1 (y % 6) (nI (y / 48 % 25)))), .int (swa (prS z 1 (y % 6) (nI (y / 48 % 25)))), .int (sbu (prS z 1 (y % 6) (nI (y / 48 % 25)))), .int (sni (prS z 1 (y % 6) (nI (y / 48 % 25))))])), (28, .inl (false, 6, sce (prS z 1 (y % 6) (nI (y / 48 % 25))))), (29, .inl (false, 6, she (prS z 1 (y % 6) (nI (y / 48 % 25))))), (30, .inl (false, 6, stu (prS z 1 (y % 6) (nI (y / 48 % 25)))))]) rfl) (Nat.le_of_ble_eq_true rfl) (fun _ _ hq9 => E_fgo ?_ hq9)
          show E _ _ 140 [.ref 0, .int (nI x), .int (nI m), .int 1, .ref 27, .int (nI y), .int (nI i), .int (nI (y % 6)), .int 1, .int (nI (y / 48 % 25))] [.int (prF z 1)] (hov hp [(0, .inr (6, [.ref 1, .ref 5, .ref 7, .ref 10, .ref 18, .ref 26, .ref 31, .ref 35, .ref 37, .int (nI rk)])), (1, .inr (0, [.ref 2, .ref 3, .ref 4, .int (skn s), .int (sdr s), .int (swa s), .int (sbu s), .int (sni s)])), (2, .inl (false, 6, sce s)), (3, .inl (false, 6, she s)), (4, .inl (false, 6, stu s)), (26, .inr (5, [.ref 27, .int y0, .int y1, .int y2, .int y3, .int y4, .int y5])), (27, .inr (0, [.ref 28, .ref 29, .ref 30, .int (skn (prS z 1 (y % 6) (nI (y / 48 % 25)))), .int (sdr (prS z 1 (y % 6) (nI (y / 48 % 25)))), .int (swa (prS z 1 (y % 6) (nI (y / 48 % 25)))), .int (sbu (prS z 1 (y % 6) (nI (y / 48 % 25)))), .int (sni (prS z 1 (y % 6) (nI (y / 48 % 25))))])), (28, .inl (false, 6, sce (prS z 1 (y % 6) (nI (y / 48 % 25))))), (29, .inl (false, 6, she (prS z 1 (y % 6) (nI (y / 48 % 25))))), (30, .inl (false, 6, stu (prS z 1 (y % 6) (nI (y / 48 % 25)))))]) _
          refine E_pop dX6_year_140 rfl ?_
          refine E_iinc (y := nI (i + 1)) (l2 := [.ref 0, .int (nI x), .int (nI m), .int 1, .ref 27, .int (nI y), .int (nI (i + 1)), .int (nI (y % 6)), .int 1, .int (nI (y / 48 % 25))]) dX6_year_141 rfl (nI_1 _) (by decide) rfl ?_
          refine E_goto (tgt := 63) dX6_year_144 (by decide) ?_
          have e9 := ih (.int (nI (y % 6))) (.int 1) (.int (nI (y / 48 % 25)))
          rw [show yN z y = prS z 1 (y % 6) (nI (y / 48 % 25)) from by rw [yN, show yK y = 1 from (by rw [yK, hk]; rfl), if_pos c126]] at e9
          exact e9
      · refine E_iload dX6_year_63 rfl ?_
        refine E_iload_n dX6_year_65 rfl ?_
        refine E_icmp_ge (tgt := 147) dX6_year_66 (by decide) (fun c => absurd c (nI_ge hi (by omega))) (fun _ => ?_)
        refine E_bipush (v := 75) dX6_year_69 (by decide) ?_
        refine E_iload dX6_year_71 rfl ?_
        refine E_imul dX6_year_73 ?_
        refine E_bipush (v := 74) dX6_year_74 (by decide) ?_
        refine E_iadd dX6_year_76 ?_
        refine E_ldc dX6_year_77 qX6_254 ?_
        refine E_irem dX6_year_79 (by decide) ?_
        refine E_eqi (y := nI y) (by rw [← hy]; exact yX_m hX) ?_
        refine E_istore (l2 := [.ref 0, .int (nI x), .int (nI m), .int 1, .ref 27, .int (nI y), .int (nI i), l7, l8, l9]) dX6_year_80 (by decide) rfl ?_
        refine E_iload dX6_year_82 rfl ?_
        refine E_bipush (v := 6) dX6_year_84 (by decide) ?_
        refine E_callS (As := [.int (nI y), .int 6]) (l' := [.int (nI y), .int 6, .null]) (st := []) dX6_year_86 kX6_255 sJ9_floorMod_7cf53 MJ9_floorMod_7cf53 rfl rfl (Nat.le_of_ble_eq_true rfl) (FC.use (c_fmod6 (d + 5) y (by omega)) rfl (L2 := [(0, .inr (6, [.ref 1, .ref 5, .ref 7, .ref 10, .ref 18, .ref 26, .ref 31, .ref 35, .ref 37, .int (nI rk)])), (1, .inr (0, [.ref 2, .ref 3, .ref 4, .int (skn s), .int (sdr s), .int (swa s), .int (sbu s), .int (sni s)])), (2, .inl (false, 6, sce s)), (3, .inl (false, 6, she s)), (4, .inl (false, 6, stu s)), (26, .inr (5, [.ref 27, .int y0, .int y1, .int y2, .int y3, .int y4, .int y5])), (27, .inr (0, [.ref 28, .ref 29, .ref 30, .int (skn z), .int (sdr z), .int (swa z), .int (sbu z), .int (sni z)])), (28, .inl (false, 6, sce z)), (29, .inl (false, 6, she z)), (30, .inl (false, 6, stu z))]) rfl) (Nat.le_of_ble_eq_true rfl) (fun _ _ hq9 => E_fgo ?_ hq9)
        show E _ _ 89 [.ref 0, .int (nI x), .int (nI m), .int 1, .ref 27, .int (nI y), .int (nI i), l7, l8, l9] [.int (nI (y % 6))] (hov hp [(0, .inr (6, [.ref 1, .ref 5, .ref 7, .ref 10, .ref 18, .ref 26, .ref 31, .ref 35, .ref 37, .int (nI rk)])), (1, .inr (0, [.ref 2, .ref 3, .ref 4, .int (skn s), .int (sdr s), .int (swa s), .int (sbu s), .int (sni s)])), (2, .inl (false, 6, sce s)), (3, .inl (false, 6, she s)), (4, .inl (false, 6, stu s)), (26, .inr (5, [.ref 27, .int y0, .int y1, .int y2, .int y3, .int y4, .int y5])), (27, .inr (0, [.ref 28, .ref 29, .ref 30, .int (skn z), .int (sdr z), .int (swa z), .int (sbu z), .int (sni z)])), (28, .inl (false, 6, sce z)), (29, .inl (false, 6, she z)), (30, .inl (false, 6, stu z))]) _
        refine E_istore (l2 := [.ref 0, .int (nI x), .int (nI m), .int 1, .ref 27, .int (nI y), .int (nI i), .int (nI (y % 6)), l8, l9]) dX6_year_89 (by decide) rfl ?_
        refine E_iload dX6_year_91 rfl ?_
        refine E_bipush (v := 6) dX6_year_93 (by decide) ?_
        refine E_idiv dX6_year_95 (by decide) ?_
        refine E_eqi (y := nI (y / 6)) (nI_d (by omega) (by decide) (by decide)) ?_
        refine E_bipush (v := 8) dX6_year_96 (by decide) ?_
        refine E_irem dX6_year_98 (by decide) ?_
        refine E_eqi (y := nI (y / 6 % 8)) (nI_r (by omega) (by decide) (by decide)) ?_
        refine E_iconst (v := 5) dX6_year_99 (by decide) ?_
        refine E_Mmin dX6_year_100 kX6_258 (Nat.le_of_ble_eq_true rfl) ?_
        refine E_eqi (y := 2) (by rw [hk]; decide) ?_
        refine E_istore (l2 := [.ref 0, .int (nI x), .int (nI m), .int 1, .ref 27, .int (nI y), .int (nI i), .int (nI (y % 6)), .int 2, l9]) dX6_year_103 (by decide) rfl ?_
        refine E_iload dX6_year_105 rfl ?_
        refine E_bipush (v := 48) dX6_year_107 (by decide) ?_
        refine E_idiv dX6_year_109 (by decide) ?_
        refine E_eqi (y := nI (y / 48)) (nI_d (by omega) (by decide) (by decide)) ?_
        refine E_bipush (v := 25) dX6_year_110 (by decide) ?_
        refine E_irem dX6_year_112 (by decide) ?_
        refine E_eqi (y := nI (y / 48 % 25)) (nI_r (by omega) (by decide) (by decide)) ?_
        refine E_istore (l2 := [.ref 0, .int (nI x), .int (nI m), .int 1, .ref 27, .int (nI y), .int (nI i), .int (nI (y % 6)), .int 2, .int (nI (y / 48 % 25))]) dX6_year_113 (by decide) rfl ?_
        refine E_aload dX6_year_115 rfl ?_
        refine E_iload dX6_year_117 rfl ?_
        refine E_iload dX6_year_119 rfl ?_
        refine E_iload dX6_year_121 rfl ?_
        refine E_callV (As := [.int 2, .int (nI (y % 6)), .int (nI (y / 48 % 25))]) (l' := [.ref 27, .int 2, .int (nI (y % 6)), .int (nI (y / 48 % 25))]) (st := []) dX6_year_123 kX6_261 iX0_reasonAgainst vX0_reasonAgainst (by decide) rfl rfl MX0_reasonAgainst rfl rfl (Nat.le_of_ble_eq_true rfl) (FC.use (c_reason_2 (d + 4) z (y % 6) (by omega) (nI (y / 48 % 25))) rfl (L2 := [(0, .inr (6, [.ref 1, .ref 5, .ref 7, .ref 10, .ref 18, .ref 26, .ref 31, .ref 35, .ref 37, .int (nI rk)])), (1, .inr (0, [.ref 2, .ref 3, .ref 4, .int (skn s), .int (sdr s), .int (swa s), .int (sbu s), .int (sni s)])), (2, .inl (false, 6, sce s)), (3, .inl (false, 6, she s)), (4, .inl (false, 6, stu s)), (26, .inr (5, [.ref 27, .int y0, .int y1, .int y2, .int y3, .int y4, .int y5])), (27, .inr (0, [.ref 28, .ref 29, .ref 30, .int (skn z), .int (sdr z), .int (swa z), .int (sbu z), .int (sni z)])), (28, .inl (false, 6, sce z)), (29, .inl (false, 6, she z)), (30, .inl (false, 6, stu z))]) rfl) (Nat.le_of_ble_eq_true rfl) (fun _ _ hq9 => E_fgo ?_ hq9)
        show E _ _ 126 [.ref 0, .int (nI x), .int (nI m), .int 1, .ref 27, .int (nI y), .int (nI i), .int (nI (y % 6)), .int 2, .int (nI (y / 48 % 25))] [.int (rsn z 2 (y % 6) (nI (y / 48 % 25)))] (hov hp [(0, .inr (6, [.ref 1, .ref 5, .ref 7, .ref 10, .ref 18, .ref 26, .ref 31, .ref 35, .ref 37, .int (nI rk)])), (1, .inr (0, [.ref 2, .ref 3, .ref 4, .int (skn s), .int (sdr s), .int (swa s), .int (sbu s), .int (sni s)])), (2, .inl (false, 6, sce s)), (3, .inl (false, 6, she s)), (4, .inl (false, 6, stu s)), (26, .inr (5, [.ref 27, .int y0, .int y1, .int y2, .int y3, .int y4, .int y5])), (27, .inr (0, [.ref 28, .ref 29, .ref 30, .int (skn z), .int (sdr z), .int (swa z), .int (sbu z), .int (sni z)])), (28, .inl (false, 6, sce z)), (29, .inl (false, 6, she z)), (30, .inl (false, 6, stu z))]) _
        refine E_if_ne (tgt := 141) dX6_year_126 (by decide) (fun c126 => ?_) (fun c126 => ?_)
        · refine E_iinc (y := nI (i + 1)) (l2 := [.ref 0, .int (nI x), .int (nI m), .int 1, .ref 27, .int (nI y), .int (nI (i + 1)), .int (nI (y % 6)), .int 2, .int (nI (y / 48 % 25))]) dX6_year_141 rfl (nI_1 _) (by decide) rfl ?_
          refine E_goto (tgt := 63) dX6_year_144 (by decide) ?_
          have e9 := ih (.int (nI (y % 6))) (.int 2) (.int (nI (y / 48 % 25)))
          rw [show yN z y = z from by rw [yN, show yK y = 2 from (by rw [yK, hk]; rfl), if_neg c126]] at e9
          exact e9
        · refine E_aload dX6_year_129 rfl ?_
          refine E_iload dX6_year_131 rfl ?_
          refine E_iload dX6_year_133 rfl ?_
          refine E_iload dX6_year_135 rfl ?_
          refine E_callV (As := [.int 2, .int (nI (y % 6)), .int (nI (y / 48 % 25))]) (l' := [.ref 27, .int 2, .int (nI (y % 6)), .int (nI (y / 48 % 25))]) (st := []) dX6_year_137 kX6_264 iX0_perform vX0_perform (by decide) rfl rfl MX0_perform rfl rfl (Nat.le_of_ble_eq_true rfl) (FC.use (c_perform_2 (d + 1) z (y % 6) (by omega) (nI (y / 48 % 25))) rfl (L2 := [(0, .inr (6, [.ref 1, .ref 5, .ref 7, .ref 10, .ref 18, .ref 26, .ref 31, .ref 35, .ref 37, .int (nI rk)])), (1, .inr (0, [.ref 2, .ref 3, .ref 4, .int (skn s), .int (sdr s), .int (swa s), .int (sbu s), .int (sni s)])), (2, .inl (false, 6, sce s)), (3, .inl (false, 6, she s)), (4, .inl (false, 6, stu s)), (26, .inr (5, [.ref 27, .int y0, .int y1, .int y2, .int y3, .int y4, .int y5])), (27, .inr (0, [.ref 28, .ref 29, .ref 30, .int (skn (prS z 2 (y % 6) (nI (y / 48 % 25)))), .int (sdr (prS z 2 (y % 6) (nI (y / 48 % 25)))), .int (swa (prS z 2 (y % 6) (nI (y / 48 % 25)))), .int (sbu (prS z 2 (y % 6) (nI (y / 48 % 25)))), .int (sni (prS z 2 (y % 6) (nI (y / 48 % 25))))])), (28, .inl (false, 6, sce (prS z 2 (y % 6) (nI (y / 48 % 25))))), (29, .inl (false, 6, she (prS z 2 (y % 6) (nI (y / 48 % 25))))), (30, .inl (false, 6, stu (prS z 2 (y % 6) (nI (y / 48 % 25)))))]) rfl) (Nat.le_of_ble_eq_true rfl) (fun _ _ hq9 => E_fgo ?_ hq9)
          show E _ _ 140 [.ref 0, .int (nI x), .int (nI m), .int 1, .ref 27, .int (nI y), .int (nI i), .int (nI (y % 6)), .int 2, .int (nI (y / 48 % 25))] [.int (prF z 2)] (hov hp [(0, .inr (6, [.ref 1, .ref 5, .ref 7, .ref 10, .ref 18, .ref 26, .ref 31, .ref 35, .ref 37, .int (nI rk)])), (1, .inr (0, [.ref 2, .ref 3, .ref 4, .int (skn s), .int (sdr s), .int (swa s), .int (sbu s), .int (sni s)])), (2, .inl (false, 6, sce s)), (3, .inl (false, 6, she s)), (4, .inl (false, 6, stu s)), (26, .inr (5, [.ref 27, .int y0, .int y1, .int y2, .int y3, .int y4, .int y5])), (27, .inr (0, [.ref 28, .ref 29, .ref 30, .int (skn (prS z 2 (y % 6) (nI (y / 48 % 25)))), .int (sdr (prS z 2 (y % 6) (nI (y / 48 % 25)))), .int (swa (prS z 2 (y % 6) (nI (y / 48 % 25)))), .int (sbu (prS z 2 (y % 6) (nI (y / 48 % 25)))), .int (sni (prS z 2 (y % 6) (nI (y / 48 % 25))))])), (28, .inl (false, 6, sce (prS z 2 (y % 6) (nI (y / 48 % 25))))), (29, .inl (false, 6, she (prS z 2 (y % 6) (nI (y / 48 % 25))))), (30, .inl (false, 6, stu (prS z 2 (y % 6) (nI (y / 48 % 25)))))]) _
          refine E_pop dX6_year_140 rfl ?_
          refine E_iinc (y := nI (i + 1)) (l2 := [.ref 0, .int (nI x), .int (nI m), .int 1, .ref 27, .int (nI y), .int (nI (i + 1)), .int (nI (y % 6)), .int 2, .int (nI (y / 48 % 25))]) dX6_year_141 rfl (nI_1 _) (by decide) rfl ?_
          refine E_goto (tgt := 63) dX6_year_144 (by decide) ?_
          have e9 := ih (.int (nI (y % 6))) (.int 2) (.int (nI (y / 48 % 25)))
          rw [show yN z y = prS z 2 (y % 6) (nI (y / 48 % 25)) from by rw [yN, show yK y = 2 from (by rw [yK, hk]; rfl), if_pos c126]] at e9
          exact e9
      · refine E_iload dX6_year_63 rfl ?_
        refine E_iload_n dX6_year_65 rfl ?_
        refine E_icmp_ge (tgt := 147) dX6_year_66 (by decide) (fun c => absurd c (nI_ge hi (by omega))) (fun _ => ?_)
        refine E_bipush (v := 75) dX6_year_69 (by decide) ?_
        refine E_iload dX6_year_71 rfl ?_
        refine E_imul dX6_year_73 ?_
        refine E_bipush (v := 74) dX6_year_74 (by decide) ?_
        refine E_iadd dX6_year_76 ?_
        refine E_ldc dX6_year_77 qX6_254 ?_
        refine E_irem dX6_year_79 (by decide) ?_
        refine E_eqi (y := nI y) (by rw [← hy]; exact yX_m hX) ?_
        refine E_istore (l2 := [.ref 0, .int (nI x), .int (nI m), .int 1, .ref 27, .int (nI y), .int (nI i), l7, l8, l9]) dX6_year_80 (by decide) rfl ?_
        refine E_iload dX6_year_82 rfl ?_
        refine E_bipush (v := 6) dX6_year_84 (by decide) ?_
        refine E_callS (As := [.int (nI y), .int 6]) (l' := [.int (nI y), .int 6, .null]) (st := []) dX6_year_86 kX6_255 sJ9_floorMod_7cf53 MJ9_floorMod_7cf53 rfl rfl (Nat.le_of_ble_eq_true rfl) (FC.use (c_fmod6 (d + 5) y (by omega)) rfl (L2 := [(0, .inr (6, [.ref 1, .ref 5, .ref 7, .ref 10, .ref 18, .ref 26, .ref 31, .ref 35, .ref 37, .int (nI rk)])), (1, .inr (0, [.ref 2, .ref 3, .ref 4, .int (skn s), .int (sdr s), .int (swa s), .int (sbu s), .int (sni s)])), (2, .inl (false, 6, sce s)), (3, .inl (false, 6, she s)), (4, .inl (false, 6, stu s)), (26, .inr (5, [.ref 27, .int y0, .int y1, .int y2, .int y3, .int y4, .int y5])), (27, .inr (0, [.ref 28, .ref 29, .ref 30, .int (skn z), .int (sdr z), .int (swa z), .int (sbu z), .int (sni z)])), (28, .inl (false, 6, sce z)), (29, .inl (false, 6, she z)), (30, .inl (false, 6, stu z))]) rfl) (Nat.le_of_ble_eq_true rfl) (fun _ _ hq9 => E_fgo ?_ hq9)
        show E _ _ 89 [.ref 0, .int (nI x), .int (nI m), .int 1, .ref 27, .int (nI y), .int (nI i), l7, l8, l9] [.int (nI (y % 6))] (hov hp [(0, .inr (6, [.ref 1, .ref 5, .ref 7, .ref 10, .ref 18, .ref 26, .ref 31, .ref 35, .ref 37, .int (nI rk)])), (1, .inr (0, [.ref 2, .ref 3, .ref 4, .int (skn s), .int (sdr s), .int (swa s), .int (sbu s), .int (sni s)])), (2, .inl (false, 6, sce s)), (3, .inl (false, 6, she s)), (4, .inl (false, 6, stu s)), (26, .inr (5, [.ref 27, .int y0, .int y1, .int y2, .int y3, .int y4, .int y5])), (27, .inr (0, [.ref 28, .ref 29, .ref 30, .int (skn z), .int (sdr z), .int (swa z), .int (sbu z), .int (sni z)])), (28, .inl (false, 6, sce z)), (29, .inl (false, 6, she z)), (30, .inl (false, 6, stu z))]) _
        refine E_istore (l2 := [.ref 0, .int (nI x), .int (nI m), .int 1, .ref 27, .int (nI y), .int (nI i), .int (nI (y % 6)), l8, l9]) dX6_year_89 (by decide) rfl ?_
        refine E_iload dX6_year_91 rfl ?_
        refine E_bipush (v := 6) dX6_year_93 (by decide) ?_
        refine E_idiv dX6_year_95 (by decide) ?_
        refine E_eqi (y := nI (y / 6)) (nI_d (by omega) (by decide) (by decide)) ?_
        refine E_bipush (v := 8) dX6_year_96 (by decide) ?_
        refine E_irem dX6_year_98 (by decide) ?_
        refine E_eqi (y := nI (y / 6 % 8)) (nI_r (by omega) (by decide) (by decide)) ?_
        refine E_iconst (v := 5) dX6_year_99 (by decide) ?_
        refine E_Mmin dX6_year_100 kX6_258 (Nat.le_of_ble_eq_true rfl) ?_
        refine E_eqi (y := 3) (by rw [hk]; decide) ?_
        refine E_istore (l2 := [.ref 0, .int (nI x), .int (nI m), .int 1, .ref 27, .int (nI y), .int (nI i), .int (nI (y % 6)), .int 3, l9]) dX6_year_103 (by decide) rfl ?_
        refine E_iload dX6_year_105 rfl ?_
        refine E_bipush (v := 48) dX6_year_107 (by decide) ?_
        refine E_idiv dX6_year_109 (by decide) ?_
        refine E_eqi (y := nI (y / 48)) (nI_d (by omega) (by decide) (by decide)) ?_
        refine E_bipush (v := 25) dX6_year_110 (by decide) ?_
        refine E_irem dX6_year_112 (by decide) ?_
        refine E_eqi (y := nI (y / 48 % 25)) (nI_r (by omega) (by decide) (by decide)) ?_
        refine E_istore (l2 := [.ref 0, .int (nI x), .int (nI m), .int 1, .ref 27, .int (nI y), .int (nI i), .int (nI (y % 6)), .int 3, .int (nI (y / 48 % 25))]) dX6_year_113 (by decide) rfl ?_
        refine E_aload dX6_year_115 rfl ?_
        refine E_iload dX6_year_117 rfl ?_
        refine E_iload dX6_year_119 rfl ?_
        refine E_iload dX6_year_121 rfl ?_
        refine E_callV (As := [.int 3, .int (nI (y % 6)), .int (nI (y / 48 % 25))]) (l' := [.ref 27, .int 3, .int (nI (y % 6)), .int (nI (y / 48 % 25))]) (st := []) dX6_year_123 kX6_261 iX0_reasonAgainst vX0_reasonAgainst (by decide) rfl rfl MX0_reasonAgainst rfl rfl (Nat.le_of_ble_eq_true rfl) (FC.use (c_reason_3 (d + 4) z (y % 6) (by omega) (nI (y / 48 % 25))) rfl (L2 := [(0, .inr (6, [.ref 1, .ref 5, .ref 7, .ref 10, .ref 18, .ref 26, .ref 31, .ref 35, .ref 37, .int (nI rk)])), (1, .inr (0, [.ref 2, .ref 3, .ref 4, .int (skn s), .int (sdr s), .int (swa s), .int (sbu s), .int (sni s)])), (2, .inl (false, 6, sce s)), (3, .inl (false, 6, she s)), (4, .inl (false, 6, stu s)), (26, .inr (5, [.ref 27, .int y0, .int y1, .int y2, .int y3, .int y4, .int y5])), (27, .inr (0, [.ref 28, .ref 29, .ref 30, .int (skn z), .int (sdr z), .int (swa z), .int (sbu z), .int (sni z)])), (28, .inl (false, 6, sce z)), (29, .inl (false, 6, she z)), (30, .inl (false, 6, stu z))]) rfl) (Nat.le_of_ble_eq_true rfl) (fun _ _ hq9 => E_fgo ?_ hq9)
        show E _ _ 126 [.ref 0, .int (nI x), .int (nI m), .int 1, .ref 27, .int (nI y), .int (nI i), .int (nI (y % 6)), .int 3, .int (nI (y / 48 % 25))] [.int (rsn z 3 (y % 6) (nI (y / 48 % 25)))] (hov hp [(0, .inr (6, [.ref 1, .ref 5, .ref 7, .ref 10, .ref 18, .ref 26, .ref 31, .ref 35, .ref 37, .int (nI rk)])), (1, .inr (0, [.ref 2, .ref 3, .ref 4, .int (skn s), .int (sdr s), .int (swa s), .int (sbu s), .int (sni s)])), (2, .inl (false, 6, sce s)), (3, .inl (false, 6, she s)), (4, .inl (false, 6, stu s)), (26, .inr (5, [.ref 27, .int y0, .int y1, .int y2, .int y3, .int y4, .int y5])), (27, .inr (0, [.ref 28, .ref 29, .ref 30, .int (skn z), .int (sdr z), .int (swa z), .int (sbu z), .int (sni z)])), (28, .inl (false, 6, sce z)), (29, .inl (false, 6, she z)), (30, .inl (false, 6, stu z))]) _
        refine E_if_ne (tgt := 141) dX6_year_126 (by decide) (fun c126 => ?_) (fun c126 => ?_)
        · refine E_iinc (y := nI (i + 1)) (l2 := [.ref 0, .int (nI x), .int (nI m), .int 1, .ref 27, .int (nI y), .int (nI (i + 1)), .int (nI (y % 6)), .int 3, .int (nI (y / 48 % 25))]) dX6_year_141 rfl (nI_1 _) (by decide) rfl ?_
          refine E_goto (tgt := 63) dX6_year_144 (by decide) ?_
          have e9 := ih (.int (nI (y % 6))) (.int 3) (.int (nI (y / 48 % 25)))
          rw [show yN z y = z from by rw [yN, show yK y = 3 from (by rw [yK, hk]; rfl), if_neg c126]] at e9
          exact e9
        · refine E_aload dX6_year_129 rfl ?_
          refine E_iload dX6_year_131 rfl ?_
          refine E_iload dX6_year_133 rfl ?_
          refine E_iload dX6_year_135 rfl ?_
          refine E_callV (As := [.int 3, .int (nI (y % 6)), .int (nI (y / 48 % 25))]) (l' := [.ref 27, .int 3, .int (nI (y % 6)), .int (nI (y / 48 % 25))]) (st := []) dX6_year_137 kX6_264 iX0_perform vX0_perform (by decide) rfl rfl MX0_perform rfl rfl (Nat.le_of_ble_eq_true rfl) (FC.use (c_perform_3 (d + 1) z (y % 6) (by omega) (nI (y / 48 % 25))) rfl (L2 := [(0, .inr (6, [.ref 1, .ref 5, .ref 7, .ref 10, .ref 18, .ref 26, .ref 31, .ref 35, .ref 37, .int (nI rk)])), (1, .inr (0, [.ref 2, .ref 3, .ref 4, .int (skn s), .int (sdr s), .int (swa s), .int (sbu s), .int (sni s)])), (2, .inl (false, 6, sce s)), (3, .inl (false, 6, she s)), (4, .inl (false, 6, stu s)), (26, .inr (5, [.ref 27, .int y0, .int y1, .int y2, .int y3, .int y4, .int y5])), (27, .inr (0, [.ref 28, .ref 29, .ref 30, .int (skn (prS z 3 (y % 6) (nI (y / 48 % 25)))), .int (sdr (prS z 3 (y % 6) (nI (y / 48 % 25)))), .int (swa (prS z 3 (y % 6) (nI (y / 48 % 25)))), .int (sbu (prS z 3 (y % 6) (nI (y / 48 % 25)))), .int (sni (prS z 3 (y % 6) (nI (y / 48 % 25))))])), (28, .inl (false, 6, sce (prS z 3 (y % 6) (nI (y / 48 % 25))))), (29, .inl (false, 6, she (prS z 3 (y % 6) (nI (y / 48 % 25))))), (30, .inl (false, 6, stu (prS z 3 (y % 6) (nI (y / 48 % 25)))))]) rfl) (Nat.le_of_ble_eq_true rfl) (fun _ _ hq9 => E_fgo ?_ hq9)
          show E _ _ 140 [.ref 0, .int (nI x), .int (nI m), .int 1, .ref 27, .int (nI y), .int (nI i), .int (nI (y % 6)), .int 3, .int (nI (y / 48 % 25))] [.int (prF z 3)] (hov hp [(0, .inr (6, [.ref 1, .ref 5, .ref 7, .ref 10, .ref 18, .ref 26, .ref 31, .ref 35, .ref 37, .int (nI rk)])), (1, .inr (0, [.ref 2, .ref 3, .ref 4, .int (skn s), .int (sdr s), .int (swa s), .int (sbu s), .int (sni s)])), (2, .inl (false, 6, sce s)), (3, .inl (false, 6, she s)), (4, .inl (false, 6, stu s)), (26, .inr (5, [.ref 27, .int y0, .int y1, .int y2, .int y3, .int y4, .int y5])), (27, .inr (0, [.ref 28, .ref 29, .ref 30, .int (skn (prS z 3 (y % 6) (nI (y / 48 % 25)))), .int (sdr (prS z 3 (y % 6) (nI (y / 48 % 25)))), .int (swa (prS z 3 (y % 6) (nI (y / 48 % 25)))), .int (sbu (prS z 3 (y % 6) (nI (y / 48 % 25)))), .int (sni (prS z 3 (y % 6) (nI (y / 48 % 25))))])), (28, .inl (false, 6, sce (prS z 3 (y % 6) (nI (y / 48 % 25))))), (29, .inl (false, 6, she (prS z 3 (y % 6) (nI (y / 48 % 25))))), (30, .inl (false, 6, stu (prS z 3 (y % 6) (nI (y / 48 % 25)))))]) _
          refine E_pop dX6_year_140 rfl ?_
          refine E_iinc (y := nI (i + 1)) (l2 := [.ref 0, .int (nI x), .int (nI m), .int 1, .ref 27, .int (nI y), .int (nI (i + 1)), .int (nI (y % 6)), .int 3, .int (nI (y / 48 % 25))]) dX6_year_141 rfl (nI_1 _) (by decide) rfl ?_
          refine E_goto (tgt := 63) dX6_year_144 (by decide) ?_
          have e9 := ih (.int (nI (y % 6))) (.int 3) (.int (nI (y / 48 % 25)))
          rw [show yN z y = prS z 3 (y % 6) (nI (y / 48 % 25)) from by rw [yN, show yK y = 3 from (by rw [yK, hk]; rfl), if_pos c126]] at e9
          exact e9
      · refine E_iload dX6_year_63 rfl ?_
        refine E_iload_n dX6_year_65 rfl ?_
        refine E_icmp_ge (tgt := 147) dX6_year_66 (by decide) (fun c => absurd c (nI_ge hi (by omega))) (fun _ => ?_)
        refine E_bipush (v := 75) dX6_year_69 (by decide) ?_
        refine E_iload dX6_year_71 rfl ?_
        refine E_imul dX6_year_73 ?_
        refine E_bipush (v := 74) dX6_year_74 (by decide) ?_
        refine E_iadd dX6_year_76 ?_
        refine E_ldc dX6_year_77 qX6_254 ?_
        refine E_irem dX6_year_79 (by decide) ?_
        refine E_eqi (y := nI y) (by rw [← hy]; exact yX_m hX) ?_
        refine E_istore (l2 := [.ref 0, .int (nI x), .int (nI m), .int 1, .ref 27, .int (nI y), .int (nI i), l7, l8, l9]) dX6_year_80 (by decide) rfl ?_
        refine E_iload dX6_year_82 rfl ?_
        refine E_bipush (v := 6) dX6_year_84 (by decide) ?_
        refine E_callS (As := [.int (nI y), .int 6]) (l' := [.int (nI y), .int 6, .null]) (st := []) dX6_year_86 kX6_255 sJ9_floorMod_7cf53 MJ9_floorMod_7cf53 rfl rfl (Nat.le_of_ble_eq_true rfl) (FC.use (c_fmod6 (d + 5) y (by omega)) rfl (L2 := [(0, .inr (6, [.ref 1, .ref 5, .ref 7, .ref 10, .ref 18, .ref 26, .ref 31, .ref 35, .ref 37, .int (nI rk)])), (1, .inr (0, [.ref 2, .ref 3, .ref 4, .int (skn s), .int (sdr s), .int (swa s), .int (sbu s), .int (sni s)])), (2, .inl (false, 6, sce s)), (3, .inl (false, 6, she s)), (4, .inl (false, 6, stu s)), (26, .inr (5, [.ref 27, .int y0, .int y1, .int y2, .int y3, .int y4, .int y5])), (27, .inr (0, [.ref 28, .ref 29, .ref 30, .int (skn z), .int (sdr z), .int (swa z), .int (sbu z), .int (sni z)])), (28, .inl (false, 6, sce z)), (29, .inl (false, 6, she z)), (30, .inl (false, 6, stu z))]) rfl) (Nat.le_of_ble_eq_true rfl) (fun _ _ hq9 => E_fgo ?_ hq9)
        show E _ _ 89 [.ref 0, .int (nI x), .int (nI m), .int 1, .ref 27, .int (nI y), .int (nI i), l7, l8, l9] [.int (nI (y % 6))] (hov hp [(0, .inr (6, [.ref 1, .ref 5, .ref 7, .ref 10, .ref 18, .ref 26, .ref 31, .ref 35, .ref 37, .int (nI rk)])), (1, .inr (0, [.ref 2, .ref 3, .ref 4, .int (skn s), .int (sdr s), .int (swa s), .int (sbu s), .int (sni s)])), (2, .inl (false, 6, sce s)), (3, .inl (false, 6, she s)), (4, .inl (false, 6, stu s)), (26, .inr (5, [.ref 27, .int y0, .int y1, .int y2, .int y3, .int y4, .int y5])), (27, .inr (0, [.ref 28, .ref 29, .ref 30, .int (skn z), .int (sdr z), .int (swa z), .int (sbu z), .int (sni z)])), (28, .inl (false, 6, sce z)), (29, .inl (false, 6, she z)), (30, .inl (false, 6, stu z))]) _
        refine E_istore (l2 := [.ref 0, .int (nI x), .int (nI m), .int 1, .ref 27, .int (nI y), .int (nI i), .int (nI (y % 6)), l8, l9]) dX6_year_89 (by decide) rfl ?_
        refine E_iload dX6_year_91 rfl ?_
        refine E_bipush (v := 6) dX6_year_93 (by decide) ?_
        refine E_idiv dX6_year_95 (by decide) ?_
        refine E_eqi (y := nI (y / 6)) (nI_d (by omega) (by decide) (by decide)) ?_
        refine E_bipush (v := 8) dX6_year_96 (by decide) ?_
        refine E_irem dX6_year_98 (by decide) ?_
        refine E_eqi (y := nI (y / 6 % 8)) (nI_r (by omega) (by decide) (by decide)) ?_
        refine E_iconst (v := 5) dX6_year_99 (by decide) ?_
        refine E_Mmin dX6_year_100 kX6_258 (Nat.le_of_ble_eq_true rfl) ?_
        refine E_eqi (y := 4) (by rw [hk]; decide) ?_
        refine E_istore (l2 := [.ref 0, .int (nI x), .int (nI m), .int 1, .ref 27, .int (nI y), .int (nI i), .int (nI (y % 6)), .int 4, l9]) dX6_year_103 (by decide) rfl ?_
        refine E_iload dX6_year_105 rfl ?_
        refine E_bipush (v := 48) dX6_year_107 (by decide) ?_
        refine E_idiv dX6_year_109 (by decide) ?_
        refine E_eqi (y := nI (y / 48)) (nI_d (by omega) (by decide) (by decide)) ?_
        refine E_bipush (v := 25) dX6_year_110 (by decide) ?_
        refine E_irem dX6_year_112 (by decide) ?_
        refine E_eqi (y := nI (y / 48 % 25)) (nI_r (by omega) (by decide) (by decide)) ?_
        refine E_istore (l2 := [.ref 0, .int (nI x), .int (nI m), .int 1, .ref 27, .int (nI y), .int (nI i), .int (nI (y % 6)), .int 4, .int (nI (y / 48 % 25))]) dX6_year_113 (by decide) rfl ?_
        refine E_aload dX6_year_115 rfl ?_
        refine E_iload dX6_year_117 rfl ?_
        refine E_iload dX6_year_119 rfl ?_
        refine E_iload dX6_year_121 rfl ?_
        refine E_callV (As := [.int 4, .int (nI (y % 6)), .int (nI (y / 48 % 25))]) (l' := [.ref 27, .int 4, .int (nI (y % 6)), .int (nI (y / 48 % 25))]) (st := []) dX6_year_123 kX6_261 iX0_reasonAgainst vX0_reasonAgainst (by decide) rfl rfl MX0_reasonAgainst rfl rfl (Nat.le_of_ble_eq_true rfl) (FC.use (c_reason_4 (d + 4) z (y % 6) (by omega) (nI (y / 48 % 25))) rfl (L2 := [(0, .inr (6, [.ref 1, .ref 5, .ref 7, .ref 10, .ref 18, .ref 26, .ref 31, .ref 35, .ref 37, .int (nI rk)])), (1, .inr (0, [.ref 2, .ref 3, .ref 4, .int (skn s), .int (sdr s), .int (swa s), .int (sbu s), .int (sni s)])), (2, .inl (false, 6, sce s)), (3, .inl (false, 6, she s)), (4, .inl (false, 6, stu s)), (26, .inr (5, [.ref 27, .int y0, .int y1, .int y2, .int y3, .int y4, .int y5])), (27, .inr (0, [.ref 28, .ref 29, .ref 30, .int (skn z), .int (sdr z), .int (swa z), .int (sbu z), .int (sni z)])), (28, .inl (false, 6, sce z)), (29, .inl (false, 6, she z)), (30, .inl (false, 6, stu z))]) rfl) (Nat.le_of_ble_eq_true rfl) (fun _ _ hq9 => E_fgo ?_ hq9)
        show E _ _ 126 [.ref 0, .int (nI x), .int (nI m), .int 1, .ref 27, .int (nI y), .int (nI i), .int (nI (y % 6)), .int 4, .int (nI (y / 48 % 25))] [.int (rsn z 4 (y % 6) (nI (y / 48 % 25)))] (hov hp [(0, .inr (6, [.ref 1, .ref 5, .ref 7, .ref 10, .ref 18, .ref 26, .ref 31, .ref 35, .ref 37, .int (nI rk)])), (1, .inr (0, [.ref 2, .ref 3, .ref 4, .int (skn s), .int (sdr s), .int (swa s), .int (sbu s), .int (sni s)])), (2, .inl (false, 6, sce s)), (3, .inl (false, 6, she s)), (4, .inl (false, 6, stu s)), (26, .inr (5, [.ref 27, .int y0, .int y1, .int y2, .int y3, .int y4, .int y5])), (27, .inr (0, [.ref 28, .ref 29, .ref 30, .int (skn z), .int (sdr z), .int (swa z), .int (sbu z), .int (sni z)])), (28, .inl (false, 6, sce z)), (29, .inl (false, 6, she z)), (30, .inl (false, 6, stu z))]) _
        refine E_if_ne (tgt := 141) dX6_year_126 (by decide) (fun c126 => ?_) (fun c126 => ?_)
        · refine E_iinc (y := nI (i + 1)) (l2 := [.ref 0, .int (nI x), .int (nI m), .int 1, .ref 27, .int (nI y), .int (nI (i + 1)), .int (nI (y % 6)), .int 4, .int (nI (y / 48 % 25))]) dX6_year_141 rfl (nI_1 _) (by decide) rfl ?_
          refine E_goto (tgt := 63) dX6_year_144 (by decide) ?_
          have e9 := ih (.int (nI (y % 6))) (.int 4) (.int (nI (y / 48 % 25)))
          rw [show yN z y = z from by rw [yN, show yK y = 4 from (by rw [yK, hk]; rfl), if_neg c126]] at e9
          exact e9
        · refine E_aload dX6_year_129 rfl ?_
          refine E_iload dX6_year_131 rfl ?_
          refine E_iload dX6_year_133 rfl ?_
          refine E_iload dX6_year_135 rfl ?_
          refine E_callV (As := [.int 4, .int (nI (y % 6)), .int (nI (y / 48 % 25))]) (l' := [.ref 27, .int 4, .int (nI (y % 6)), .int (nI (y / 48 % 25))]) (st := []) dX6_year_137 kX6_264 iX0_perform vX0_perform (by decide) rfl rfl MX0_perform rfl rfl (Nat.le_of_ble_eq_true rfl) (FC.use (c_perform_4 (d + 1) z (y % 6) (by omega) (nI (y / 48 % 25))) rfl (L2 := [(0, .inr (6, [.ref 1, .ref 5, .ref 7, .ref 10, .ref 18, .ref 26, .ref 31, .ref 35, .ref 37, .int (nI rk)])), (1, .inr (0, [.ref 2, .ref 3, .ref 4, .int (skn s), .int (sdr s), .int (swa s), .int (sbu s), .int (sni s)])), (2, .inl (false, 6, sce s)), (3, .inl (false, 6, she s)), (4, .inl (false, 6, stu s)), (26, .inr (5, [.ref 27, .int y0, .int y1, .int y2, .int y3, .int y4, .int y5])), (27, .inr (0, [.ref 28, .ref 29, .ref 30, .int (skn (prS z 4 (y % 6) (nI (y / 48 % 25)))), .int (sdr (prS z 4 (y % 6) (nI (y / 48 % 25)))), .int (swa (prS z 4 (y % 6) (nI (y / 48 % 25)))), .int (sbu (prS z 4 (y % 6) (nI (y / 48 % 25)))), .int (sni (prS z 4 (y % 6) (nI (y / 48 % 25))))])), (28, .inl (false, 6, sce (prS z 4 (y % 6) (nI (y / 48 % 25))))), (29, .inl (false, 6, she (prS z 4 (y % 6) (nI (y / 48 % 25))))), (30, .inl (false, 6, stu (prS z 4 (y % 6) (nI (y / 48 % 25)))))]) rfl) (Nat.le_of_ble_eq_true rfl) (fun _ _ hq9 => E_fgo ?_ hq9)
          show E _ _ 140 [.ref 0, .int (nI x), .int (nI m), .int 1, .ref 27, .int (nI y), .int (nI i), .int (nI (y % 6)), .int 4, .int (nI (y / 48 % 25))] [.int (prF z 4)] (hov hp [(0, .inr (6, [.ref 1, .ref 5, .ref 7, .ref 10, .ref 18, .ref 26, .ref 31, .ref 35, .ref 37, .int (nI rk)])), (1, .inr (0, [.ref 2, .ref 3, .ref 4, .int (skn s), .int (sdr s), .int (swa s), .int (sbu s), .int (sni s)])), (2, .inl (false, 6, sce s)), (3, .inl (false, 6, she s)), (4, .inl (false, 6, stu s)), (26, .inr (5, [.ref 27, .int y0, .int y1, .int y2, .int y3, .int y4, .int y5])), (27, .inr (0, [.ref 28, .ref 29, .ref 30, .int (skn (prS z 4 (y % 6) (nI (y / 48 % 25)))), .int (sdr (prS z 4 (y % 6) (nI (y / 48 % 25)))), .int (swa (prS z 4 (y % 6) (nI (y / 48 % 25)))), .int (sbu (prS z 4 (y % 6) (nI (y / 48 % 25)))), .int (sni (prS z 4 (y % 6) (nI (y / 48 % 25))))])), (28, .inl (false, 6, sce (prS z 4 (y % 6) (nI (y / 48 % 25))))), (29, .inl (false, 6, she (prS z 4 (y % 6) (nI (y / 48 % 25))))), (30, .inl (false, 6, stu (prS z 4 (y % 6) (nI (y / 48 % 25)))))]) _
          refine E_pop dX6_year_140 rfl ?_
          refine E_iinc (y := nI (i + 1)) (l2 := [.ref 0, .int (nI x), .int (nI m), .int 1, .ref 27, .int (nI y), .int (nI (i + 1)), .int (nI (y % 6)), .int 4, .int (nI (y / 48 % 25))]) dX6_year_141 rfl (nI_1 _) (by decide) rfl ?_
          refine E_goto (tgt := 63) dX6_year_144 (by decide) ?_
          have e9 := ih (.int (nI (y % 6))) (.int 4) (.int (nI (y / 48 % 25)))
          rw [show yN z y = prS z 4 (y % 6) (nI (y / 48 % 25)) from by rw [yN, show yK y = 4 from (by rw [yK, hk]; rfl), if_pos c126]] at e9
          exact e9
      · refine E_iload dX6_year_63 rfl ?_
        refine E_iload_n dX6_year_65 rfl ?_
        refine E_icmp_ge (tgt := 147) dX6_year_66 (by decide) (fun c => absurd c (nI_ge hi (by omega))) (fun _ => ?_)
        refine E_bipush (v := 75) dX6_year_69 (by decide) ?_
        refine E_iload dX6_year_71 rfl ?_
        refine E_imul dX6_year_73 ?_
        refine E_bipush (v := 74) dX6_year_74 (by decide) ?_
        refine E_iadd dX6_year_76 ?_
        refine E_ldc dX6_year_77 qX6_254 ?_
        refine E_irem dX6_year_79 (by decide) ?_
        refine E_eqi (y := nI y) (by rw [← hy]; exact yX_m hX) ?_
        refine E_istore (l2 := [.ref 0, .int (nI x), .int (nI m), .int 1, .ref 27, .int (nI y), .int (nI i), l7, l8, l9]) dX6_year_80 (by decide) rfl ?_
        refine E_iload dX6_year_82 rfl ?_
        refine E_bipush (v := 6) dX6_year_84 (by decide) ?_
        refine E_callS (As := [.int (nI y), .int 6]) (l' := [.int (nI y), .int 6, .null]) (st := []) dX6_year_86 kX6_255 sJ9_floorMod_7cf53 MJ9_floorMod_7cf53 rfl rfl (Nat.le_of_ble_eq_true rfl) (FC.use (c_fmod6 (d + 5) y (by omega)) rfl (L2 := [(0, .inr (6, [.ref 1, .ref 5, .ref 7, .ref 10, .ref 18, .ref 26, .ref 31, .ref 35, .ref 37, .int (nI rk)])), (1, .inr (0, [.ref 2, .ref 3, .ref 4, .int (skn s), .int (sdr s), .int (swa s), .int (sbu s), .int (sni s)])), (2, .inl (false, 6, sce s)), (3, .inl (false, 6, she s)), (4, .inl (false, 6, stu s)), (26, .inr (5, [.ref 27, .int y0, .int y1, .int y2, .int y3, .int y4, .int y5])), (27, .inr (0, [.ref 28, .ref 29, .ref 30, .int (skn z), .int (sdr z), .int (swa z), .int (sbu z), .int (sni z)])), (28, .inl (false, 6, sce z)), (29, .inl (false, 6, she z)), (30, .inl (false, 6, stu z))]) rfl) (Nat.le_of_ble_eq_true rfl) (fun _ _ hq9 => E_fgo ?_ hq9)
        show E _ _ 89 [.ref 0, .int (nI x), .int (nI m), .int 1, .ref 27, .int (nI y), .int (nI i), l7, l8, l9] [.int (nI (y % 6))] (hov hp [(0, .inr (6, [.ref 1, .ref 5, .ref 7, .ref 10, .ref 18, .ref 26, .ref 31, .ref 35, .ref 37, .int (nI rk)])), (1, .inr (0, [.ref 2, .ref 3, .ref 4, .int (skn s), .int (sdr s), .int (swa s), .int (sbu s), .int (sni s)])), (2, .inl (false, 6, sce s)), (3, .inl (false, 6, she s)), (4, .inl (false, 6, stu s)), (26, .inr (5, [.ref 27, .int y0, .int y1, .int y2, .int y3, .int y4, .int y5])), (27, .inr (0, [.ref 28, .ref 29, .ref 30, .int (skn z), .int (sdr z), .int (swa z), .int (sbu z), .int (sni z)])), (28, .inl (false, 6, sce z)), (29, .inl (false, 6, she z)), (30, .inl (false, 6, stu z))]) _
        refine E_istore (l2 := [.ref 0, .int (nI x), .int (nI m), .int 1, .ref 27, .int (nI y), .int (nI i), .int (nI (y % 6)), l8, l9]) dX6_year_89 (by decide) rfl ?_
        refine E_iload dX6_year_91 rfl ?_
        refine E_bipush (v := 6) dX6_year_93 (by decide) ?_
        refine E_idiv dX6_year_95 (by decide) ?_
        refine E_eqi (y := nI (y / 6)) (nI_d (by omega) (by decide) (by decide)) ?_
        refine E_bipush (v := 8) dX6_year_96 (by decide) ?_
        refine E_irem dX6_year_98 (by decide) ?_
        refine E_eqi (y := nI (y / 6 % 8)) (nI_r (by omega) (by decide) (by decide)) ?_
        refine E_iconst (v := 5) dX6_year_99 (by decide) ?_
        refine E_Mmin dX6_year_100 kX6_258 (Nat.le_of_ble_eq_true rfl) ?_
        refine E_eqi (y := 5) (min5 hk (by omega)) ?_
        refine E_istore (l2 := [.ref 0, .int (nI x), .int (nI m), .int 1, .ref 27, .int (nI y), .int (nI i), .int (nI (y % 6)), .int 5, l9]) dX6_year_103 (by decide) rfl ?_
        refine E_iload dX6_year_105 rfl ?_
        refine E_bipush (v := 48) dX6_year_107 (by decide) ?_
        refine E_idiv dX6_year_109 (by decide) ?_
        refine E_eqi (y := nI (y / 48)) (nI_d (by omega) (by decide) (by decide)) ?_
        refine E_bipush (v := 25) dX6_year_110 (by decide) ?_
        refine E_irem dX6_year_112 (by decide) ?_
        refine E_eqi (y := nI (y / 48 % 25)) (nI_r (by omega) (by decide) (by decide)) ?_
        refine E_istore (l2 := [.ref 0, .int (nI x), .int (nI m), .int 1, .ref 27, .int (nI y), .int (nI i), .int (nI (y % 6)), .int 5, .int (nI (y / 48 % 25))]) dX6_year_113 (by decide) rfl ?_
        refine E_aload dX6_year_115 rfl ?_
        refine E_iload dX6_year_117 rfl ?_
        refine E_iload dX6_year_119 rfl ?_
        refine E_iload dX6_year_121 rfl ?_
        refine E_callV (As := [.int 5, .int (nI (y % 6)), .int (nI (y / 48 % 25))]) (l' := [.ref 27, .int 5, .int (nI (y % 6)), .int (nI (y / 48 % 25))]) (st := []) dX6_year_123 kX6_261 iX0_reasonAgainst vX0_reasonAgainst (by decide) rfl rfl MX0_reasonAgainst rfl rfl (Nat.le_of_ble_eq_true rfl) (FC.use (c_reason_5 (d + 4) z (y % 6) (by omega) (nI (y / 48 % 25))) rfl (L2 := [(0, .inr (6, [.ref 1, .ref 5, .ref 7, .ref 10, .ref 18, .ref 26, .ref 31, .ref 35, .ref 37, .int (nI rk)])), (1, .inr (0, [.ref 2, .ref 3, .ref 4, .int (skn s), .int (sdr s), .int (swa s), .int (sbu s), .int (sni s)])), (2, .inl (false, 6, sce s)), (3, .inl (false, 6, she s)), (4, .inl (false, 6, stu s)), (26, .inr (5, [.ref 27, .int y0, .int y1, .int y2, .int y3, .int y4, .int y5])), (27, .inr (0, [.ref 28, .ref 29, .ref 30, .int (skn z), .int (sdr z), .int (swa z), .int (sbu z), .int (sni z)])), (28, .inl (false, 6, sce z)), (29, .inl (false, 6, she z)), (30, .inl (false, 6, stu z))]) rfl) (Nat.le_of_ble_eq_true rfl) (fun _ _ hq9 => E_fgo ?_ hq9)
        show E _ _ 126 [.ref 0, .int (nI x), .int (nI m), .int 1, .ref 27, .int (nI y), .int (nI i), .int (nI (y % 6)), .int 5, .int (nI (y / 48 % 25))] [.int (rsn z 5 (y % 6) (nI (y / 48 % 25)))] (hov hp [(0, .inr (6, [.ref 1, .ref 5, .ref 7, .ref 10, .ref 18, .ref 26, .ref 31, .ref 35, .ref 37, .int (nI rk)])), (1, .inr (0, [.ref 2, .ref 3, .ref 4, .int (skn s), .int (sdr s), .int (swa s), .int (sbu s), .int (sni s)])), (2, .inl (false, 6, sce s)), (3, .inl (false, 6, she s)), (4, .inl (false, 6, stu s)), (26, .inr (5, [.ref 27, .int y0, .int y1, .int y2, .int y3, .int y4, .int y5])), (27, .inr (0, [.ref 28, .ref 29, .ref 30, .int (skn z), .int (sdr z), .int (swa z), .int (sbu z), .int (sni z)])), (28, .inl (false, 6, sce z)), (29, .inl (false, 6, she z)), (30, .inl (false, 6, stu z))]) _
        refine E_if_ne (tgt := 141) dX6_year_126 (by decide) (fun c126 => ?_) (fun c126 => ?_)
        · refine E_iinc (y := nI (i + 1)) (l2 := [.ref 0, .int (nI x), .int (nI m), .int 1, .ref 27, .int (nI y), .int (nI (i + 1)), .int (nI (y % 6)), .int 5, .int (nI (y / 48 % 25))]) dX6_year_141 rfl (nI_1 _) (by decide) rfl ?_
          refine E_goto (tgt := 63) dX6_year_144 (by decide) ?_
          have e9 := ih (.int (nI (y % 6))) (.int 5) (.int (nI (y / 48 % 25)))
          rw [show yN z y = z from by rw [yN, show yK y = 5 from (by rw [yK, if_neg (by omega)]), if_neg c126]] at e9
          exact e9
        · refine E_aload dX6_year_129 rfl ?_
          refine E_iload dX6_year_131 rfl ?_
          refine E_iload dX6_year_133 rfl ?_
          refine E_iload dX6_year_135 rfl ?_
          refine E_callV (As := [.int 5, .int (nI (y % 6)), .int (nI (y / 48 % 25))]) (l' := [.ref 27, .int 5, .int (nI (y % 6)), .int (nI (y / 48 % 25))]) (st := []) dX6_year_137 kX6_264 iX0_perform vX0_perform (by decide) rfl rfl MX0_perform rfl rfl (Nat.le_of_ble_eq_true rfl) (FC.use (c_perform_5 (d + 1) z (y % 6) (by omega) (nI (y / 48 % 25))) rfl (L2 := [(0, .inr (6, [.ref 1, .ref 5, .ref 7, .ref 10, .ref 18, .ref 26, .ref 31, .ref 35, .ref 37, .int (nI rk)])), (1, .inr (0, [.ref 2, .ref 3, .ref 4, .int (skn s), .int (sdr s), .int (swa s), .int (sbu s), .int (sni s)])), (2, .inl (false, 6, sce s)), (3, .inl (false, 6, she s)), (4, .inl (false, 6, stu s)), (26, .inr (5, [.ref 27, .int y0, .int y1, .int y2, .int y3, .int y4, .int y5])), (27, .inr (0, [.ref 28, .ref 29, .ref 30, .int (skn (prS z 5 (y % 6) (nI (y / 48 % 25)))), .int (sdr (prS z 5 (y % 6) (nI (y / 48 % 25)))), .int (swa (prS z 5 (y % 6) (nI (y / 48 % 25)))), .int (sbu (prS z 5 (y % 6) (nI (y / 48 % 25)))), .int (sni (prS z 5 (y % 6) (nI (y / 48 % 25))))])), (28, .inl (false, 6, sce (prS z 5 (y % 6) (nI (y / 48 % 25))))), (29, .inl (false, 6, she (prS z 5 (y % 6) (nI (y / 48 % 25))))), (30, .inl (false, 6, stu (prS z 5 (y % 6) (nI (y / 48 % 25)))))]) rfl) (Nat.le_of_ble_eq_true rfl) (fun _ _ hq9 => E_fgo ?_ hq9)
          show E _ _ 140 [.ref 0, .int (nI x), .int (nI m), .int 1, .ref 27, .int (nI y), .int (nI i), .int (nI (y % 6)), .int 5, .int (nI (y / 48 % 25))] [.int (prF z 5)] (hov hp [(0, .inr (6, [.ref 1, .ref 5, .ref 7, .ref 10, .ref 18, .ref 26, .ref 31, .ref 35, .ref 37, .int (nI rk)])), (1, .inr (0, [.ref 2, .ref 3, .ref 4, .int (skn s), .int (sdr s), .int (swa s), .int (sbu s), .int (sni s)])), (2, .inl (false, 6, sce s)), (3, .inl (false, 6, she s)), (4, .inl (false, 6, stu s)), (26, .inr (5, [.ref 27, .int y0, .int y1, .int y2, .int y3, .int y4, .int y5])), (27, .inr (0, [.ref 28, .ref 29, .ref 30, .int (skn (prS z 5 (y % 6) (nI (y / 48 % 25)))), .int (sdr (prS z 5 (y % 6) (nI (y / 48 % 25)))), .int (swa (prS z 5 (y % 6) (nI (y / 48 % 25)))), .int (sbu (prS z 5 (y % 6) (nI (y / 48 % 25)))), .int (sni (prS z 5 (y % 6) (nI (y / 48 % 25))))])), (28, .inl (false, 6, sce (prS z 5 (y % 6) (nI (y / 48 % 25))))), (29, .inl (false, 6, she (prS z 5 (y % 6) (nI (y / 48 % 25))))), (30, .inl (false, 6, stu (prS z 5 (y % 6) (nI (y / 48 % 25)))))]) _
          refine E_pop dX6_year_140 rfl ?_
          refine E_iinc (y := nI (i + 1)) (l2 := [.ref 0, .int (nI x), .int (nI m), .int 1, .ref 27, .int (nI y), .int (nI (i + 1)), .int (nI (y % 6)), .int 5, .int (nI (y / 48 % 25))]) dX6_year_141 rfl (nI_1 _) (by decide) rfl ?_
          refine E_goto (tgt := 63) dX6_year_144 (by decide) ?_
          have e9 := ih (.int (nI (y % 6))) (.int 5) (.int (nI (y / 48 % 25)))
          rw [show yN z y = prS z 5 (y % 6) (nI (y / 48 % 25)) from by rw [yN, show yK y = 5 from (by rw [yK, if_neg (by omega)]), if_pos c126]] at e9
          exact e9
  exact L63 0 (by omega) _ _ _

set_option maxHeartbeats 4000000 in
set_option maxRecDepth 20000 in
theorem t_year_2 (d : Nat) (rk : Nat) (s t : CS) (hA : Agr t s) (y0 y1 y2 y3 y4 y5 : Int32) (x m : Nat) (hx : x < 10000) (hm : m < 100) (h0 : inL (Int32.toInt64 (nI x)) 0 9999 = true) (h1 : inL (Int32.toInt64 (nI m)) 1 99 = true) : FC YX6_year (d + 6) [.ref 0, .int (nI x), .int (nI m), .int 2, .null, .null, .null, .null, .null, .null] [(0, .inr (6, [.ref 1, .ref 5, .ref 7, .ref 10, .ref 18, .ref 26, .ref 31, .ref 35, .ref 37, .int (nI rk)])), (1, .inr (0, [.ref 2, .ref 3, .ref 4, .int (skn s), .int (sdr s), .int (swa s), .int (sbu s), .int (sni s)])), (2, .inl (false, 6, sce s)), (3, .inl (false, 6, she s)), (4, .inl (false, 6, stu s)), (26, .inr (5, [.ref 27, .int y0, .int y1, .int y2, .int y3, .int y4, .int y5])), (27, .inr (0, [.ref 28, .ref 29, .ref 30, .int (skn t), .int (sdr t), .int (swa t), .int (sbu t), .int (sni t)])), (28, .inl (false, 6, sce t)), (29, .inl (false, 6, she t)), (30, .inl (false, 6, stu t))] (some (.int (sumN (she (yr s x m).1) 6))) [(0, .inr (6, [.ref 1, .ref 5, .ref 7, .ref 10, .ref 18, .ref 26, .ref 31, .ref 35, .ref 37, .int (nI rk)])), (1, .inr (0, [.ref 2, .ref 3, .ref 4, .int (skn s), .int (sdr s), .int (swa s), .int (sbu s), .int (sni s)])), (2, .inl (false, 6, sce s)), (3, .inl (false, 6, she s)), (4, .inl (false, 6, stu s)), (26, .inr (5, [.ref 27, .int y0, .int y1, .int y2, .int y3, .int y4, .int y5])), (27, .inr (0, [.ref 28, .ref 29, .ref 30, .int (skn ((yr s x m).1)), .int (sdr ((yr s x m).1)), .int (swa ((yr s x m).1)), .int (sbu ((yr s x m).1)), .int (sni ((yr s x m).1))])), (28, .inl (false, 6, sce ((yr s x m).1))), (29, .inl (false, 6, she ((yr s x m).1))), (30, .inl (false, 6, stu ((yr s x m).1)))] := by
  intro hp
  refine E_iload_n dX6_year_0 rfl ?_
  refine E_i2l dX6_year_1 ?_
  refine E_lconst (v := 0) dX6_year_2 (by decide) ?_
  refine E_ldc2 dX6_year_3 qX6_189 ?_
  refine E_callS (As := [.long (Int32.toInt64 (nI x)), .long 0, .long 9999]) (l' := [.long (Int32.toInt64 (nI x)), .null, .long 0, .null, .long 9999, .null]) (st := []) dX6_year_6 kX6_73 sX6_isIn MX6_isIn rfl rfl (Nat.le_of_ble_eq_true rfl) (FC.use (c_isIn (d + 5) _ _ _) rfl (L2 := [(0, .inr (6, [.ref 1, .ref 5, .ref 7, .ref 10, .ref 18, .ref 26, .ref 31, .ref 35, .ref 37, .int (nI rk)])), (1, .inr (0, [.ref 2, .ref 3, .ref 4, .int (skn s), .int (sdr s), .int (swa s), .int (sbu s), .int (sni s)])), (2, .inl (false, 6, sce s)), (3, .inl (false, 6, she s)), (4, .inl (false, 6, stu s)), (26, .inr (5, [.ref 27, .int y0, .int y1, .int y2, .int y3, .int y4, .int y5])), (27, .inr (0, [.ref 28, .ref 29, .ref 30, .int (skn t), .int (sdr t), .int (swa t), .int (sbu t), .int (sni t)])), (28, .inl (false, 6, sce t)), (29, .inl (false, 6, she t)), (30, .inl (false, 6, stu t))]) rfl) (Nat.le_of_ble_eq_true rfl) (fun _ _ hq9 => E_fgo ?_ hq9)
  show E _ _ 9 [.ref 0, .int (nI x), .int (nI m), .int 2, .null, .null, .null, .null, .null, .null] [.int (b2i (inL (Int32.toInt64 (nI x)) 0 9999))] (hov hp [(0, .inr (6, [.ref 1, .ref 5, .ref 7, .ref 10, .ref 18, .ref 26, .ref 31, .ref 35, .ref 37, .int (nI rk)])), (1, .inr (0, [.ref 2, .ref 3, .ref 4, .int (skn s), .int (sdr s), .int (swa s), .int (sbu s), .int (sni s)])), (2, .inl (false, 6, sce s)), (3, .inl (false, 6, she s)), (4, .inl (false, 6, stu s)), (26, .inr (5, [.ref 27, .int y0, .int y1, .int y2, .int y3, .int y4, .int y5])), (27, .inr (0, [.ref 28, .ref 29, .ref 30, .int (skn t), .int (sdr t), .int (swa t), .int (sbu t), .int (sni t)])), (28, .inl (false, 6, sce t)), (29, .inl (false, 6, she t)), (30, .inl (false, 6, stu t))]) _
  refine E_if_eq (tgt := 36) dX6_year_9 (by decide) (fun c => (b2i_x1 h0 c).elim) (fun _ => ?_)
  refine E_iload_n dX6_year_12 rfl ?_
  refine E_i2l dX6_year_13 ?_
  refine E_lconst (v := 1) dX6_year_14 (by decide) ?_
  refine E_ldc2 dX6_year_15 qX6_252 ?_
  refine E_callS (As := [.long (Int32.toInt64 (nI m)), .long 1, .long 99]) (l' := [.long (Int32.toInt64 (nI m)), .null, .long 1, .null, .long 99, .null]) (st := []) dX6_year_18 kX6_73 sX6_isIn MX6_isIn rfl rfl (Nat.le_of_ble_eq_true rfl) (FC.use (c_isIn (d + 5) _ _ _) rfl (L2 := [(0, .inr (6, [.ref 1, .ref 5, .ref 7, .ref 10, .ref 18, .ref 26, .ref 31, .ref 35, .ref 37, .int (nI rk)])), (1, .inr (0, [.ref 2, .ref 3, .ref 4, .int (skn s), .int (sdr s), .int (swa s), .int (sbu s), .int (sni s)])), (2, .inl (false, 6, sce s)), (3, .inl (false, 6, she s)), (4, .inl (false, 6, stu s)), (26, .inr (5, [.ref 27, .int y0, .int y1, .int y2, .int y3, .int y4, .int y5])), (27, .inr (0, [.ref 28, .ref 29, .ref 30, .int (skn t), .int (sdr t), .int (swa t), .int (sbu t), .int (sni t)])), (28, .inl (false, 6, sce t)), (29, .inl (false, 6, she t)), (30, .inl (false, 6, stu t))]) rfl) (Nat.le_of_ble_eq_true rfl) (fun _ _ hq9 => E_fgo ?_ hq9)
  show E _ _ 21 [.ref 0, .int (nI x), .int (nI m), .int 2, .null, .null, .null, .null, .null, .null] [.int (b2i (inL (Int32.toInt64 (nI m)) 1 99))] (hov hp [(0, .inr (6, [.ref 1, .ref 5, .ref 7, .ref 10, .ref 18, .ref 26, .ref 31, .ref 35, .ref 37, .int (nI rk)])), (1, .inr (0, [.ref 2, .ref 3, .ref 4, .int (skn s), .int (sdr s), .int (swa s), .int (sbu s), .int (sni s)])), (2, .inl (false, 6, sce s)), (3, .inl (false, 6, she s)), (4, .inl (false, 6, stu s)), (26, .inr (5, [.ref 27, .int y0, .int y1, .int y2, .int y3, .int y4, .int y5])), (27, .inr (0, [.ref 28, .ref 29, .ref 30, .int (skn t), .int (sdr t), .int (swa t), .int (sbu t), .int (sni t)])), (28, .inl (false, 6, sce t)), (29, .inl (false, 6, she t)), (30, .inl (false, 6, stu t))]) _
  refine E_if_eq (tgt := 36) dX6_year_21 (by decide) (fun c => (b2i_x1 h1 c).elim) (fun _ => ?_)
  refine E_iload_n dX6_year_24 rfl ?_
  refine E_i2l dX6_year_25 ?_
  refine E_lconst (v := 0) dX6_year_26 (by decide) ?_
  refine E_ldc2 dX6_year_27 qX6_138 ?_
  refine E_callS (As := [.long (Int32.toInt64 2), .long 0, .long 2]) (l' := [.long (Int32.toInt64 2), .null, .long 0, .null, .long 2, .null]) (st := []) dX6_year_30 kX6_73 sX6_isIn MX6_isIn rfl rfl (Nat.le_of_ble_eq_true rfl) (FC.use (c_isIn (d + 5) _ _ _) rfl (L2 := [(0, .inr (6, [.ref 1, .ref 5, .ref 7, .ref 10, .ref 18, .ref 26, .ref 31, .ref 35, .ref 37, .int (nI rk)])), (1, .inr (0, [.ref 2, .ref 3, .ref 4, .int (skn s), .int (sdr s), .int (swa s), .int (sbu s), .int (sni s)])), (2, .inl (false, 6, sce s)), (3, .inl (false, 6, she s)), (4, .inl (false, 6, stu s)), (26, .inr (5, [.ref 27, .int y0, .int y1, .int y2, .int y3, .int y4, .int y5])), (27, .inr (0, [.ref 28, .ref 29, .ref 30, .int (skn t), .int (sdr t), .int (swa t), .int (sbu t), .int (sni t)])), (28, .inl (false, 6, sce t)), (29, .inl (false, 6, she t)), (30, .inl (false, 6, stu t))]) rfl) (Nat.le_of_ble_eq_true rfl) (fun _ _ hq9 => E_fgo ?_ hq9)
  show E _ _ 33 [.ref 0, .int (nI x), .int (nI m), .int 2, .null, .null, .null, .null, .null, .null] [.int (b2i (inL (Int32.toInt64 2) 0 2))] (hov hp [(0, .inr (6, [.ref 1, .ref 5, .ref 7, .ref 10, .ref 18, .ref 26, .ref 31, .ref 35, .ref 37, .int (nI rk)])), (1, .inr (0, [.ref 2, .ref 3, .ref 4, .int (skn s), .int (sdr s), .int (swa s), .int (sbu s), .int (sni s)])), (2, .inl (false, 6, sce s)), (3, .inl (false, 6, she s)), (4, .inl (false, 6, stu s)), (26, .inr (5, [.ref 27, .int y0, .int y1, .int y2, .int y3, .int y4, .int y5])), (27, .inr (0, [.ref 28, .ref 29, .ref 30, .int (skn t), .int (sdr t), .int (swa t), .int (sbu t), .int (sni t)])), (28, .inl (false, 6, sce t)), (29, .inl (false, 6, she t)), (30, .inl (false, 6, stu t))]) _
  refine E_if_ne (tgt := 39) dX6_year_33 (by decide) (fun _ => ?_) (fun c => (b2i_x1 (by decide) c).elim)
  refine E_aload_n dX6_year_39 rfl ?_
  refine E_get dX6_year_40 fX6_43 (by decide) rfl rfl ?_
  refine E_get dX6_year_43 fX6_128 (by decide) rfl rfl ?_
  refine E_astore (l2 := [.ref 0, .int (nI x), .int (nI m), .int 2, .ref 27, .null, .null, .null, .null, .null]) dX6_year_46 (by decide) rfl ?_
  refine E_aload dX6_year_48 rfl ?_
  refine E_aload_n dX6_year_50 rfl ?_
  refine E_get dX6_year_51 fX6_12 (by decide) rfl rfl ?_
  refine E_callV (As := [.ref 1]) (l' := [.ref 27, .ref 1, .null]) (st := []) dX6_year_54 kX6_131 iX0_copyFrom vX0_copyFrom (by decide) rfl rfl MX0_copyFrom rfl rfl (Nat.le_of_ble_eq_true rfl) (FC.use (c_copy_27_1 (d + 5) t s hA) rfl (L2 := [(0, .inr (6, [.ref 1, .ref 5, .ref 7, .ref 10, .ref 18, .ref 26, .ref 31, .ref 35, .ref 37, .int (nI rk)])), (1, .inr (0, [.ref 2, .ref 3, .ref 4, .int (skn s), .int (sdr s), .int (swa s), .int (sbu s), .int (sni s)])), (2, .inl (false, 6, sce s)), (3, .inl (false, 6, she s)), (4, .inl (false, 6, stu s)), (26, .inr (5, [.ref 27, .int y0, .int y1, .int y2, .int y3, .int y4, .int y5])), (27, .inr (0, [.ref 28, .ref 29, .ref 30, .int (skn s), .int (sdr s), .int (swa s), .int (sbu s), .int (sni s)])), (28, .inl (false, 6, sce s)), (29, .inl (false, 6, she s)), (30, .inl (false, 6, stu s))]) rfl) (Nat.le_of_ble_eq_true rfl) (fun _ _ hq9 => E_fgo ?_ hq9)
  show E _ _ 57 [.ref 0, .int (nI x), .int (nI m), .int 2, .ref 27, .null, .null, .null, .null, .null] [] (hov hp [(0, .inr (6, [.ref 1, .ref 5, .ref 7, .ref 10, .ref 18, .ref 26, .ref 31, .ref 35, .ref 37, .int (nI rk)])), (1, .inr (0, [.ref 2, .ref 3, .ref 4, .int (skn s), .int (sdr s), .int (swa s), .int (sbu s), .int (sni s)])), (2, .inl (false, 6, sce s)), (3, .inl (false, 6, she s)), (4, .inl (false, 6, stu s)), (26, .inr (5, [.ref 27, .int y0, .int y1, .int y2, .int y3, .int y4, .int y5])), (27, .inr (0, [.ref 28, .ref 29, .ref 30, .int (skn s), .int (sdr s), .int (swa s), .int (sbu s), .int (sni s)])), (28, .inl (false, 6, sce s)), (29, .inl (false, 6, she s)), (30, .inl (false, 6, stu s))]) _
  refine E_iload_n dX6_year_57 rfl ?_
  refine E_istore (l2 := [.ref 0, .int (nI x), .int (nI m), .int 2, .ref 27, .int (nI x), .null, .null, .null, .null]) dX6_year_58 (by decide) rfl ?_
  refine E_iconst (v := 0) dX6_year_60 (by decide) ?_
  refine E_istore (l2 := [.ref 0, .int (nI x), .int (nI m), .int 2, .ref 27, .int (nI x), .int 0, .null, .null, .null]) dX6_year_61 (by decide) rfl ?_
  have L63 : ∀ i, i ≤ m → ∀ l7 l8 l9 : Value, E YX6_year (d + 6) 63 [.ref 0, .int (nI x), .int (nI m), .int 2, .ref 27, .int (nI ((yr s x i).2)), .int (nI i), l7, l8, l9] [] (hov hp [(0, .inr (6, [.ref 1, .ref 5, .ref 7, .ref 10, .ref 18, .ref 26, .ref 31, .ref 35, .ref 37, .int (nI rk)])), (1, .inr (0, [.ref 2, .ref 3, .ref 4, .int (skn s), .int (sdr s), .int (swa s), .int (sbu s), .int (sni s)])), (2, .inl (false, 6, sce s)), (3, .inl (false, 6, she s)), (4, .inl (false, 6, stu s)), (26, .inr (5, [.ref 27, .int y0, .int y1, .int y2, .int y3, .int y4, .int y5])), (27, .inr (0, [.ref 28, .ref 29, .ref 30, .int (skn ((yr s x i).1)), .int (sdr ((yr s x i).1)), .int (swa ((yr s x i).1)), .int (sbu ((yr s x i).1)), .int (sni ((yr s x i).1))])), (28, .inl (false, 6, sce ((yr s x i).1))), (29, .inl (false, 6, she ((yr s x i).1))), (30, .inl (false, 6, stu ((yr s x i).1)))]) (fun v h' => v = some (.int (sumN (she (yr s x m).1) 6)) ∧ h' = hov hp [(0, .inr (6, [.ref 1, .ref 5, .ref 7, .ref 10, .ref 18, .ref 26, .ref 31, .ref 35, .ref 37, .int (nI rk)])), (1, .inr (0, [.ref 2, .ref 3, .ref 4, .int (skn s), .int (sdr s), .int (swa s), .int (sbu s), .int (sni s)])), (2, .inl (false, 6, sce s)), (3, .inl (false, 6, she s)), (4, .inl (false, 6, stu s)), (26, .inr (5, [.ref 27, .int y0, .int y1, .int y2, .int y3, .int y4, .int y5])), (27, .inr (0, [.ref 28, .ref 29, .ref 30, .int (skn ((yr s x m).1)), .int (sdr ((yr s x m).1)), .int (swa ((yr s x m).1)), .int (sbu ((yr s x m).1)), .int (sni ((yr s x m).1))])), (28, .inl (false, 6, sce ((yr s x m).1))), (29, .inl (false, 6, she ((yr s x m).1))), (30, .inl (false, 6, stu ((yr s x m).1)))]) := by
    refine down m ?_ ?_
    · intro l7 l8 l9
      refine E_iload dX6_year_63 rfl ?_
      refine E_iload_n dX6_year_65 rfl ?_
      refine E_icmp_ge (tgt := 147) dX6_year_66 (by decide) (fun _ => ?_) (fun c => absurd (nI_le (Nat.le_refl _) (by omega)) c)
      refine E_iload_n dX6_year_147 rfl ?_
      refine E_lookup (off := 46) (tgt := 194) dX6_year_148 (by decide) (by decide) (by decide) ?_
      refine E_aload dX6_year_194 rfl ?_
      refine E_callV (As := []) (l' := [.ref 27, .null, .null]) (st := []) dX6_year_196 kX6_267 iX0_heatOfAll vX0_heatOfAll (by decide) rfl rfl MX0_heatOfAll rfl rfl (Nat.le_of_ble_eq_true rfl) (FC.use (c_heatOfAll (d + 5) (yr s x m).1) rfl (L2 := [(0, .inr (6, [.ref 1, .ref 5, .ref 7, .ref 10, .ref 18, .ref 26, .ref 31, .ref 35, .ref 37, .int (nI rk)])), (1, .inr (0, [.ref 2, .ref 3, .ref 4, .int (skn s), .int (sdr s), .int (swa s), .int (sbu s), .int (sni s)])), (2, .inl (false, 6, sce s)), (3, .inl (false, 6, she s)), (4, .inl (false, 6, stu s)), (26, .inr (5, [.ref 27, .int y0, .int y1, .int y2, .int y3, .int y4, .int y5])), (27, .inr (0, [.ref 28, .ref 29, .ref 30, .int (skn ((yr s x m).1)), .int (sdr ((yr s x m).1)), .int (swa ((yr s x m).1)), .int (sbu ((yr s x m).1)), .int (sni ((yr s x m).1))])), (28, .inl (false, 6, sce ((yr s x m).1))), (29, .inl (false, 6, she ((yr s x m).1))), (30, .inl (false, 6, stu ((yr s x m).1)))]) rfl) (Nat.le_of_ble_eq_true rfl) (fun _ _ hq9 => E_fgo ?_ hq9)
      show E _ _ 199 [.ref 0, .int (nI x), .int (nI m), .int 2, .ref 27, .int (nI ((yr s x m).2)), .int (nI m), l7, l8, l9] [.int (sumN (she (yr s x m).1) 6)] (hov hp [(0, .inr (6, [.ref 1, .ref 5, .ref 7, .ref 10, .ref 18, .ref 26, .ref 31, .ref 35, .ref 37, .int (nI rk)])), (1, .inr (0, [.ref 2, .ref 3, .ref 4, .int (skn s), .int (sdr s), .int (swa s), .int (sbu s), .int (sni s)])), (2, .inl (false, 6, sce s)), (3, .inl (false, 6, she s)), (4, .inl (false, 6, stu s)), (26, .inr (5, [.ref 27, .int y0, .int y1, .int y2, .int y3, .int y4, .int y5])), (27, .inr (0, [.ref 28, .ref 29, .ref 30, .int (skn ((yr s x m).1)), .int (sdr ((yr s x m).1)), .int (swa ((yr s x m).1)), .int (sbu ((yr s x m).1)), .int (sni ((yr s x m).1))])), (28, .inl (false, 6, sce ((yr s x m).1))), (29, .inl (false, 6, she ((yr s x m).1))), (30, .inl (false, 6, stu ((yr s x m).1)))]) _
      exact E_iretf dX6_year_199 rfl rfl rfl rfl
    · intro i hi ih l7 l8 l9
      have hX := yr_lt (s := s) (seed := x) (by omega) i
      have hY : yX (yr s x i).2 < 65537 := Nat.mod_lt _ (by decide)
      generalize hy : yX (yr s x i).2 = y at hY
      have eS : (yr s x (i + 1)).1 = yN (yr s x i).1 y := by rw [← hy]; rfl
      have eX : (yr s x (i + 1)).2 = y := by rw [← hy]; rfl
      rw [eS, eX] at ih
      generalize (yr s x i).1 = z at ih ⊢
      have hk : y / 6 % 8 = 0 ∨ y / 6 % 8 = 1 ∨ y / 6 % 8 = 2 ∨ y / 6 % 8 = 3 ∨ y / 6 % 8 = 4 ∨ 5 ≤ y / 6 % 8 := by omega
      rcases hk with hk | hk | hk | hk | hk | hk
      · refine E_iload dX6_year_63 rfl ?_
        refine E_iload_n dX6_year_65 rfl ?_
        refine E_icmp_ge (tgt := 147) dX6_year_66 (by decide) (fun c => absurd c (nI_ge hi (by omega))) (fun _ => ?_)
        refine E_bipush (v := 75) dX6_year_69 (by decide) ?_
        refine E_iload dX6_year_71 rfl ?_
        refine E_imul dX6_year_73 ?_
        refine E_bipush (v := 74) dX6_year_74 (by decide) ?_
        refine E_iadd dX6_year_76 ?_
        refine E_ldc dX6_year_77 qX6_254 ?_
        refine E_irem dX6_year_79 (by decide) ?_
        refine E_eqi (y := nI y) (by rw [← hy]; exact yX_m hX) ?_
        refine E_istore (l2 := [.ref 0, .int (nI x), .int (nI m), .int 2, .ref 27, .int (nI y), .int (nI i), l7, l8, l9]) dX6_year_80 (by decide) rfl ?_
        refine E_iload dX6_year_82 rfl ?_
        refine E_bipush (v := 6) dX6_year_84 (by decide) ?_
        refine E_callS (As := [.int (nI y), .int 6]) (l' := [.int (nI y), .int 6, .null]) (st := []) dX6_year_86 kX6_255 sJ9_floorMod_7cf53 MJ9_floorMod_7cf53 rfl rfl (Nat.le_of_ble_eq_true rfl) (FC.use (c_fmod6 (d + 5) y (by omega)) rfl (L2 := [(0, .inr (6, [.ref 1, .ref 5, .ref 7, .ref 10, .ref 18, .ref 26, .ref 31, .ref 35, .ref 37, .int (nI rk)])), (1, .inr (0, [.ref 2, .ref 3, .ref 4, .int (skn s), .int (sdr s), .int (swa s), .int (sbu s), .int (sni s)])), (2, .inl (false, 6, sce s)), (3, .inl (false, 6, she s)), (4, .inl (false, 6, stu s)), (26, .inr (5, [.ref 27, .int y0, .int y1, .int y2, .int y3, .int y4, .int y5])), (27, .inr (0, [.ref 28, .ref 29, .ref 30, .int (skn z), .int (sdr z), .int (swa z), .int (sbu z), .int (sni z)])), (28, .inl (false, 6, sce z)), (29, .inl (false, 6, she z)), (30, .inl (false, 6, stu z))]) rfl) (Nat.le_of_ble_eq_true rfl) (fun _ _ hq9 => E_fgo ?_ hq9)
        show E _ _ 89 [.ref 0, .int (nI x), .int (nI m), .int 2, .ref 27, .int (nI y), .int (nI i), l7, l8, l9] [.int (nI (y % 6))] (hov hp [(0, .inr (6, [.ref 1, .ref 5, .ref 7, .ref 10, .ref 18, .ref 26, .ref 31, .ref 35, .ref 37, .int (nI rk)])), (1, .inr (0, [.ref 2, .ref 3, .ref 4, .int (skn s), .int (sdr s), .int (swa s), .int (sbu s), .int (sni s)])), (2, .inl (false, 6, sce s)), (3, .inl (false, 6, she s)), (4, .inl (false, 6, stu s)), (26, .inr (5, [.ref 27, .int y0, .int y1, .int y2, .int y3, .int y4, .int y5])), (27, .inr (0, [.ref 28, .ref 29, .ref 30, .int (skn z), .int (sdr z), .int (swa z), .int (sbu z), .int (sni z)])), (28, .inl (false, 6, sce z)), (29, .inl (false, 6, she z)), (30, .inl (false, 6, stu z))]) _
        refine E_istore (l2 := [.ref 0, .int (nI x), .int (nI m), .int 2, .ref 27, .int (nI y), .int (nI i), .int (nI (y % 6)), l8, l9]) dX6_year_89 (by decide) rfl ?_
        refine E_iload dX6_year_91 rfl ?_
        refine E_bipush (v := 6) dX6_year_93 (by decide) ?_
        refine E_idiv dX6_year_95 (by decide) ?_
        refine E_eqi (y := nI (y / 6)) (nI_d (by omega) (by decide) (by decide)) ?_
        refine E_bipush (v := 8) dX6_year_96 (by decide) ?_
        refine E_irem dX6_year_98 (by decide) ?_
        refine E_eqi (y := nI (y / 6 % 8)) (nI_r (by omega) (by decide) (by decide)) ?_
        refine E_iconst (v := 5) dX6_year_99 (by decide) ?_
        refine E_Mmin dX6_year_100 kX6_258 (Nat.le_of_ble_eq_true rfl) ?_
        refine E_eqi (y := 0) (by rw [hk]; decide) ?_
        refine E_istore (l2 := [.ref 0, .int (nI x), .int (nI m), .int 2, .ref 27, .int (nI y), .int (nI i), .int (nI (y % 6)), .int 0, l9]) dX6_year_103 (by decide) rfl ?_
        refine E_iload dX6_year_105 rfl ?_
        refine E_bipush (v := 48) dX6_year_107 (by decide) ?_
        refine E_idiv dX6_year_109 (by decide) ?_
        refine E_eqi (y := nI (y / 48)) (nI_d (by omega) (by decide) (by decide)) ?_
        refine E_bipush (v := 25) dX6_year_110 (by decide) ?_
        refine E_irem dX6_year_112 (by decide) ?_
        refine E_eqi (y := nI (y / 48 % 25)) (nI_r (by omega) (by decide) (by decide)) ?_
        refine E_istore (l2 := [.ref 0, .int (nI x), .int (nI m), .int 2, .ref 27, .int (nI y), .int (nI i), .int (nI (y % 6)), .int 0, .int (nI (y / 48 % 25))]) dX6_year_113 (by decide) rfl ?_
        refine E_aload dX6_year_115 rfl ?_
        refine E_iload dX6_year_117 rfl ?_
        refine E_iload dX6_year_119 rfl ?_
        refine E_iload dX6_year_121 rfl ?_
        refine E_callV (As := [.int 0, .int (nI (y % 6)), .int (nI (y / 48 % 25))]) (l' := [.ref 27, .int 0, .int (nI (y % 6)), .int (nI (y / 48 % 25))]) (st := []) dX6_year_123 kX6_261 iX0_reasonAgainst vX0_reasonAgainst (by decide) rfl rfl MX0_reasonAgainst rfl rfl (Nat.le_of_ble_eq_true rfl) (FC.use (c_reason_0 (d + 4) z (y % 6) (by omega) (nI (y / 48 % 25))) rfl (L2 := [(0, .inr (6, [.ref 1, .ref 5, .ref 7, .ref 10, .ref 18, .ref 26, .ref 31, .ref 35, .ref 37, .int (nI rk)])), (1, .inr (0, [.ref 2, .ref 3, .ref 4, .int (skn s), .int (sdr s), .int (swa s), .int (sbu s), .int (sni s)])), (2, .inl (false, 6, sce s)), (3, .inl (false, 6, she s)), (4, .inl (false, 6, stu s)), (26, .inr (5, [.ref 27, .int y0, .int y1, .int y2, .int y3, .int y4, .int y5])), (27, .inr (0, [.ref 28, .ref 29, .ref 30, .int (skn z), .int (sdr z), .int (swa z), .int (sbu z), .int (sni z)])), (28, .inl (false, 6, sce z)), (29, .inl (false, 6, she z)), (30, .inl (false, 6, stu z))]) rfl) (Nat.le_of_ble_eq_true rfl) (fun _ _ hq9 => E_fgo ?_ hq9)
        show E _ _ 126 [.ref 0, .int (nI x), .int (nI m), .int 2, .ref 27, .int (nI y), .int (nI i), .int (nI (y % 6)), .int 0, .int (nI (y / 48 % 25))] [.int (rsn z 0 (y % 6) (nI (y / 48 % 25)))] (hov hp [(0, .inr (6, [.ref 1, .ref 5, .ref 7, .ref 10, .ref 18, .ref 26, .ref 31, .ref 35, .ref 37, .int (nI rk)])), (1, .inr (0, [.ref 2, .ref 3, .ref 4, .int (skn s), .int (sdr s), .int (swa s), .int (sbu s), .int (sni s)])), (2, .inl (false, 6, sce s)), (3, .inl (false, 6, she s)), (4, .inl (false, 6, stu s)), (26, .inr (5, [.ref 27, .int y0, .int y1, .int y2, .int y3, .int y4, .int y5])), (27, .inr (0, [.ref 28, .ref 29, .ref 30, .int (skn z), .int (sdr z), .int (swa z), .int (sbu z), .int (sni z)])), (28, .inl (false, 6, sce z)), (29, .inl (false, 6, she z)), (30, .inl (false, 6, stu z))]) _
        refine E_if_ne (tgt := 141) dX6_year_126 (by decide) (fun c126 => ?_) (fun c126 => ?_)
        · refine E_iinc (y := nI (i + 1)) (l2 := [.ref 0, .int (nI x), .int (nI m), .int 2, .ref 27, .int (nI y), .int (nI (i + 1)), .int (nI (y % 6)), .int 0, .int (nI (y / 48 % 25))]) dX6_year_141 rfl (nI_1 _) (by decide) rfl ?_
          refine E_goto (tgt := 63) dX6_year_144 (by decide) ?_
          have e9 := ih (.int (nI (y % 6))) (.int 0) (.int (nI (y / 48 % 25)))
          rw [show yN z y = z from by rw [yN, show yK y = 0 from (by rw [yK, hk]; rfl), if_neg c126]] at e9
          exact e9
        · refine E_aload dX6_year_129 rfl ?_
          refine E_iload dX6_year_131 rfl ?_
          refine E_iload dX6_year_133 rfl ?_
          refine E_iload dX6_year_135 rfl ?_
          refine E_callV (As := [.int 0, .int (nI (y % 6)), .int (nI (y / 48 % 25))]) (l' := [.ref 27, .int 0, .int (nI (y % 6)), .int (nI (y / 48 % 25))]) (st := []) dX6_year_137 kX6_264 iX0_perform vX0_perform (by decide) rfl rfl MX0_perform rfl rfl (Nat.le_of_ble_eq_true rfl) (FC.use (c_perform_0 (d + 1) z (y % 6) (by omega) (nI (y / 48 % 25))) rfl (L2 := [(0, .inr (6, [.ref 1, .ref 5, .ref 7, .ref 10, .ref 18, .ref 26, .ref 31, .ref 35, .ref 37, .int (nI rk)])), (1, .inr (0, [.ref 2, .ref 3, .ref 4, .int (skn s), .int (sdr s), .int (swa s), .int (sbu s), .int (sni s)])), (2, .inl (false, 6, sce s)), (3, .inl (false, 6, she s)), (4, .inl (false, 6, stu s)), (26, .inr (5, [.ref 27, .int y0, .int y1, .int y2, .int y3, .int y4, .int y5])), (27, .inr (0, [.ref 28, .ref 29, .ref 30, .int (skn (prS z 0 (y % 6) (nI (y / 48 % 25)))), .int (sdr (prS z 0 (y % 6) (nI (y / 48 % 25)))), .int (swa (prS z 0 (y % 6) (nI (y / 48 % 25)))), .int (sbu (prS z 0 (y % 6) (nI (y / 48 % 25)))), .int (sni (prS z 0 (y % 6) (nI (y / 48 % 25))))])), (28, .inl (false, 6, sce (prS z 0 (y % 6) (nI (y / 48 % 25))))), (29, .inl (false, 6, she (prS z 0 (y % 6) (nI (y / 48 % 25))))), (30, .inl (false, 6, stu (prS z 0 (y % 6) (nI (y / 48 % 25)))))]) rfl) (Nat.le_of_ble_eq_true rfl) (fun _ _ hq9 => E_fgo ?_ hq9)
          show E _ _ 140 [.ref 0, .int (nI x), .int (nI m), .int 2, .ref 27, .int (nI y), .int (nI i), .int (nI (y % 6)), .int 0, .int (nI (y / 48 % 25))] [.int (prF z 0)] (hov hp [(0, .inr (6, [.ref 1, .ref 5, .ref 7, .ref 10, .ref 18, .ref 26, .ref 31, .ref 35, .ref 37, .int (nI rk)])), (1, .inr (0, [.ref 2, .ref 3, .ref 4, .int (skn s), .int (sdr s), .int (swa s), .int (sbu s), .int (sni s)])), (2, .inl (false, 6, sce s)), (3, .inl (false, 6, she s)), (4, .inl (false, 6, stu s)), (26, .inr (5, [.ref 27, .int y0, .int y1, .int y2, .int y3, .int y4, .int y5])), (27, .inr (0, [.ref 28, .ref 29, .ref 30, .int (skn (prS z 0 (y % 6) (nI (y / 48 % 25)))), .int (sdr (prS z 0 (y % 6) (nI (y / 48 % 25)))), .int (swa (prS z 0 (y % 6) (nI (y / 48 % 25)))), .int (sbu (prS z 0 (y % 6) (nI (y / 48 % 25)))), .int (sni (prS z 0 (y % 6) (nI (y / 48 % 25))))])), (28, .inl (false, 6, sce (prS z 0 (y % 6) (nI (y / 48 % 25))))), (29, .inl (false, 6, she (prS z 0 (y % 6) (nI (y / 48 % 25))))), (30, .inl (false, 6, stu (prS z 0 (y % 6) (nI (y / 48 % 25)))))]) _
          refine E_pop dX6_year_140 rfl ?_
          refine E_iinc (y := nI (i + 1)) (l2 := [.ref 0, .int (nI x), .int (nI m), .int 2, .ref 27, .int (nI y), .int (nI (i + 1)), .int (nI (y % 6)), .int 0, .int (nI (y / 48 % 25))]) dX6_year_141 rfl (nI_1 _) (by decide) rfl ?_
          refine E_goto (tgt := 63) dX6_year_144 (by decide) ?_
          have e9 := ih (.int (nI (y % 6))) (.int 0) (.int (nI (y / 48 % 25)))
          rw [show yN z y = prS z 0 (y % 6) (nI (y / 48 % 25)) from by rw [yN, show yK y = 0 from (by rw [yK, hk]; rfl), if_pos c126]] at e9
          exact e9
      · refine E_iload dX6_year_63 rfl ?_
        refine E_iload_n dX6_year_65 rfl ?_
        refine E_icmp_ge (tgt := 147) dX6_year_66 (by decide) (fun c => absurd c (nI_ge hi (by omega))) (fun _ => ?_)
        refine E_bipush (v := 75) dX6_year_69 (by decide) ?_
        refine E_iload dX6_year_71 rfl ?_
        refine E_imul dX6_year_73 ?_
        refine E_bipush (v := 74) dX6_year_74 (by decide) ?_
        refine E_iadd dX6_year_76 ?_
        refine E_ldc dX6_year_77 qX6_254 ?_
        refine E_irem dX6_year_79 (by decide) ?_
        refine E_eqi (y := nI y) (by rw [← hy]; exact yX_m hX) ?_
        refine E_istore (l2 := [.ref 0, .int (nI x), .int (nI m), .int 2, .ref 27, .int (nI y), .int (nI i), l7, l8, l9]) dX6_year_80 (by decide) rfl ?_
        refine E_iload dX6_year_82 rfl ?_
        refine E_bipush (v := 6) dX6_year_84 (by decide) ?_
        refine E_callS (As := [.int (nI y), .int 6]) (l' := [.int (nI y), .int 6, .null]) (st := []) dX6_year_86 kX6_255 sJ9_floorMod_7cf53 MJ9_floorMod_7cf53 rfl rfl (Nat.le_of_ble_eq_true rfl) (FC.use (c_fmod6 (d + 5) y (by omega)) rfl (L2 := [(0, .inr (6, [.ref 1, .ref 5, .ref 7, .ref 10, .ref 18, .ref 26, .ref 31, .ref 35, .ref 37, .int (nI rk)])), (1, .inr (0, [.ref 2, .ref 3, .ref 4, .int (skn s), .int (sdr s), .int (swa s), .int (sbu s), .int (sni s)])), (2, .inl (false, 6, sce s)), (3, .inl (false, 6, she s)), (4, .inl (false, 6, stu s)), (26, .inr (5, [.ref 27, .int y0, .int y1, .int y2, .int y3, .int y4, .int y5])), (27, .inr (0, [.ref 28, .ref 29, .ref 30, .int (skn z), .int (sdr z), .int (swa z), .int (sbu z), .int (sni z)])), (28, .inl (false, 6, sce z)), (29, .inl (false, 6, she z)), (30, .inl (false, 6, stu z))]) rfl) (Nat.le_of_ble_eq_true rfl) (fun _ _ hq9 => E_fgo ?_ hq9)
        show E _ _ 89 [.ref 0, .int (nI x), .int (nI m), .int 2, .ref 27, .int (nI y), .int (nI i), l7, l8, l9] [.int (nI (y % 6))] (hov hp [(0, .inr (6, [.ref 1, .ref 5, .ref 7, .ref 10, .ref 18, .ref 26, .ref 31, .ref 35, .ref 37, .int (nI rk)])), (1, .inr (0, [.ref 2, .ref 3, .ref 4, .int (skn s), .int (sdr s), .int (swa s), .int (sbu s), .int (sni s)])), (2, .inl (false, 6, sce s)), (3, .inl (false, 6, she s)), (4, .inl (false, 6, stu s)), (26, .inr (5, [.ref 27, .int y0, .int y1, .int y2, .int y3, .int y4, .int y5])), (27, .inr (0, [.ref 28, .ref 29, .ref 30, .int (skn z), .int (sdr z), .int (swa z), .int (sbu z), .int (sni z)])), (28, .inl (false, 6, sce z)), (29, .inl (false, 6, she z)), (30, .inl (false, 6, stu z))]) _
        refine E_istore (l2 := [.ref 0, .int (nI x), .int (nI m), .int 2, .ref 27, .int (nI y), .int (nI i), .int (nI (y % 6)), l8, l9]) dX6_year_89 (by decide) rfl ?_
        refine E_iload dX6_year_91 rfl ?_
        refine E_bipush (v := 6) dX6_year_93 (by decide) ?_
        refine E_idiv dX6_year_95 (by decide) ?_
        refine E_eqi (y := nI (y / 6)) (nI_d (by omega) (by decide) (by decide)) ?_
        refine E_bipush (v := 8) dX6_year_96 (by decide) ?_
        refine E_irem dX6_year_98 (by decide) ?_
        refine E_eqi (y := nI (y / 6 % 8)) (nI_r (by omega) (by decide) (by decide)) ?_
        refine E_iconst (v := 5) dX6_year_99 (by decide) ?_
        refine E_Mmin dX6_year_100 kX6_258 (Nat.le_of_ble_eq_true rfl) ?_
        refine E_eqi (y := 1) (by rw [hk]; decide) ?_
        refine E_istore (l2 := [.ref 0, .int (nI x), .int (nI m), .int 2, .ref 27, .int (nI y), .int (nI i), .int (nI (y % 6)), .int 1, l9]) dX6_year_103 (by decide) rfl ?_
        refine E_iload dX6_year_105 rfl ?_
        refine E_bipush (v := 48) dX6_year_107 (by decide) ?_
        refine E_idiv dX6_year_109 (by decide) ?_
        refine E_eqi (y := nI (y / 48)) (nI_d (by omega) (by decide) (by decide)) ?_
        refine E_bipush (v := 25) dX6_year_110 (by decide) ?_
        refine E_irem dX6_year_112 (by decide) ?_
        refine E_eqi (y := nI (y / 48 % 25)) (nI_r (by omega) (by decide) (by decide)) ?_
        refine E_istore (l2 := [.ref 0, .int (nI x), .int (nI m), .int 2, .ref 27, .int (nI y), .int (nI i), .int (nI (y % 6)), .int 1, .int (nI (y / 48 % 25))]) dX6_year_113 (by decide) rfl ?_
        refine E_aload dX6_year_115 rfl ?_
        refine E_iload dX6_year_117 rfl ?_
        refine E_iload dX6_year_119 rfl ?_
        refine E_iload dX6_year_121 rfl ?_
        refine E_callV (As := [.int 1, .int (nI (y % 6)), .int (nI (y / 48 % 25))]) (l' := [.ref 27, .int 1, .int (nI (y % 6)), .int (nI (y / 48 % 25))]) (st := []) dX6_year_123 kX6_261 iX0_reasonAgainst vX0_reasonAgainst (by decide) rfl rfl MX0_reasonAgainst rfl rfl (Nat.le_of_ble_eq_true rfl) (FC.use (c_reason_1 (d + 4) z (y % 6) (by omega) (nI (y / 48 % 25))) rfl (L2 := [(0, .inr (6, [.ref 1, .ref 5, .ref 7, .ref 10, .ref 18, .ref 26, .ref 31, .ref 35, .ref 37, .int (nI rk)])), (1, .inr (0, [.ref 2, .ref 3, .ref 4, .int (skn s), .int (sdr s), .int (swa s), .int (sbu s), .int (sni s)])), (2, .inl (false, 6, sce s)), (3, .inl (false, 6, she s)), (4, .inl (false, 6, stu s)), (26, .inr (5, [.ref 27, .int y0, .int y1, .int y2, .int y3, .int y4, .int y5])), (27, .inr (0, [.ref 28, .ref 29, .ref 30, .int (skn z), .int (sdr z), .int (swa z), .int (sbu z), .int (sni z)])), (28, .inl (false, 6, sce z)), (29, .inl (false, 6, she z)), (30, .inl (false, 6, stu z))]) rfl) (Nat.le_of_ble_eq_true rfl) (fun _ _ hq9 => E_fgo ?_ hq9)
        show E _ _ 126 [.ref 0, .int (nI x), .int (nI m), .int 2, .ref 27, .int (nI y), .int (nI i), .int (nI (y % 6)), .int 1, .int (nI (y / 48 % 25))] [.int (rsn z 1 (y % 6) (nI (y / 48 % 25)))] (hov hp [(0, .inr (6, [.ref 1, .ref 5, .ref 7, .ref 10, .ref 18, .ref 26, .ref 31, .ref 35, .ref 37, .int (nI rk)])), (1, .inr (0, [.ref 2, .ref 3, .ref 4, .int (skn s), .int (sdr s), .int (swa s), .int (sbu s), .int (sni s)])), (2, .inl (false, 6, sce s)), (3, .inl (false, 6, she s)), (4, .inl (false, 6, stu s)), (26, .inr (5, [.ref 27, .int y0, .int y1, .int y2, .int y3, .int y4, .int y5])), (27, .inr (0, [.ref 28, .ref 29, .ref 30, .int (skn z), .int (sdr z), .int (swa z), .int (sbu z), .int (sni z)])), (28, .inl (false, 6, sce z)), (29, .inl (false, 6, she z)), (30, .inl (false, 6, stu z))]) _
        refine E_if_ne (tgt := 141) dX6_year_126 (by decide) (fun c126 => ?_) (fun c126 => ?_)
        · refine E_iinc (y := nI (i + 1)) (l2 := [.ref 0, .int (nI x), .int (nI m), .int 2, .ref 27, .int (nI y), .int (nI (i + 1)), .int (nI (y % 6)), .int 1, .int (nI (y / 48 % 25))]) dX6_year_141 rfl (nI_1 _) (by decide) rfl ?_
          refine E_goto (tgt := 63) dX6_year_144 (by decide) ?_
          have e9 := ih (.int (nI (y % 6))) (.int 1) (.int (nI (y / 48 % 25)))
          rw [show yN z y = z from by rw [yN, show yK y = 1 from (by rw [yK, hk]; rfl), if_neg c126]] at e9
          exact e9
        · refine E_aload dX6_year_129 rfl ?_
          refine E_iload dX6_year_131 rfl ?_
          refine E_iload dX6_year_133 rfl ?_
          refine E_iload dX6_year_135 rfl ?_
          refine E_callV (As := [.int 1, .int (nI (y % 6)), .int (nI (y / 48 % 25))]) (l' := [.ref 27, .int 1, .int (nI (y % 6)), .int (nI (y / 48 % 25))]) (st := []) dX6_year_137 kX6_264 iX0_perform vX0_perform (by decide) rfl rfl MX0_perform rfl rfl (Nat.le_of_ble_eq_true rfl) (FC.use (c_perform_1 (d + 1) z (y % 6) (by omega) (nI (y / 48 % 25))) rfl (L2 := [(0, .inr (6, [.ref 1, .ref 5, .ref 7, .ref 10, .ref 18, .ref 26, .ref 31, .ref 35, .ref 37, .int (nI rk)])), (1, .inr (0, [.ref 2, .ref 3, .ref 4, .int (skn s), .int (sdr s), .int (swa s), .int (sbu s), .int (sni s)])), (2, .inl (false, 6, sce s)), (3, .inl (false, 6, she s)), (4, .inl (false, 6, stu s)), (26, .inr (5, [.ref 27, .int y0, .int y1, .int y2, .int y3, .int y4, .int y5])), (27, .inr (0, [.ref 28, .ref 29, .ref 30, .int (skn (prS z 1 (y % 6) (nI (y / 48 % 25)))), .int (sdr (prS z 1 (y % 6) (nI (y / 48 % 25)))), .int (swa (prS z 1 (y % 6) (nI (y / 48 % 25)))), .int (sbu (prS z 1 (y % 6) (nI (y / 48 % 25)))), .int (sni (prS z 1 (y % 6) (nI (y / 48 % 25))))])), (28, .inl (false, 6, sce (prS z 1 (y % 6) (nI (y / 48 % 25))))), (29, .inl (false, 6, she (prS z 1 (y % 6) (nI (y / 48 % 25))))), (30, .inl (false, 6, stu (prS z 1 (y % 6) (nI (y / 48 % 25)))))]) rfl) (Nat.le_of_ble_eq_true rfl) (fun _ _ hq9 => E_fgo ?_ hq9)
          show E _ _ 140 [.ref 0, .int (nI x), .int (nI m), .int 2, .ref 27, .int (nI y), .int (nI i), .int (nI (y % 6)), .int 1, .int (nI (y / 48 % 25))] [.int (prF z 1)] (hov hp [(0, .inr (6, [.ref 1, .ref 5, .ref 7, .ref 10, .ref 18, .ref 26, .ref 31, .ref 35, .ref 37, .int (nI rk)])), (1, .inr (0, [.ref 2, .ref 3, .ref 4, .int (skn s), .int (sdr s), .int (swa s), .int (sbu s), .int (sni s)])), (2, .inl (false, 6, sce s)), (3, .inl (false, 6, she s)), (4, .inl (false, 6, stu s)), (26, .inr (5, [.ref 27, .int y0, .int y1, .int y2, .int y3, .int y4, .int y5])), (27, .inr (0, [.ref 28, .ref 29, .ref 30, .int (skn (prS z 1 (y % 6) (nI (y / 48 % 25)))), .int (sdr (prS z 1 (y % 6) (nI (y / 48 % 25)))), .int (swa (prS z 1 (y % 6) (nI (y / 48 % 25)))), .int (sbu (prS z 1 (y % 6) (nI (y / 48 % 25)))), .int (sni (prS z 1 (y % 6) (nI (y / 48 % 25))))])), (28, .inl (false, 6, sce (prS z 1 (y % 6) (nI (y / 48 % 25))))), (29, .inl (false, 6, she (prS z 1 (y % 6) (nI (y / 48 % 25))))), (30, .inl (false, 6, stu (prS z 1 (y % 6) (nI (y / 48 % 25)))))]) _
          refine E_pop dX6_year_140 rfl ?_
          refine E_iinc (y := nI (i + 1)) (l2 := [.ref 0, .int (nI x), .int (nI m), .int 2, .ref 27, .int (nI y), .int (nI (i + 1)), .int (nI (y % 6)), .int 1, .int (nI (y / 48 % 25))]) dX6_year_141 rfl (nI_1 _) (by decide) rfl ?_
          refine E_goto (tgt := 63) dX6_year_144 (by decide) ?_
          have e9 := ih (.int (nI (y % 6))) (.int 1) (.int (nI (y / 48 % 25)))
          rw [show yN z y = prS z 1 (y % 6) (nI (y / 48 % 25)) from by rw [yN, show yK y = 1 from (by rw [yK, hk]; rfl), if_pos c126]] at e9
          exact e9
      · refine E_iload dX6_year_63 rfl ?_
        refine E_iload_n dX6_year_65 rfl ?_
        refine E_icmp_ge (tgt := 147) dX6_year_66 (by decide) (fun c => absurd c (nI_ge hi (by omega))) (fun _ => ?_)
        refine E_bipush (v := 75) dX6_year_69 (by decide) ?_
        refine E_iload dX6_year_71 rfl ?_
        refine E_imul dX6_year_73 ?_
        refine E_bipush (v := 74) dX6_year_74 (by decide) ?_
        refine E_iadd dX6_year_76 ?_
        refine E_ldc dX6_year_77 qX6_254 ?_
        refine E_irem dX6_year_79 (by decide) ?_
        refine E_eqi (y := nI y) (by rw [← hy]; exact yX_m hX) ?_
        refine E_istore (l2 := [.ref 0, .int (nI x), .int (nI m), .int 2, .ref 27, .int (nI y), .int (nI i), l7, l8, l9]) dX6_year_80 (by decide) rfl ?_
        refine E_iload dX6_year_82 rfl ?_
        refine E_bipush (v := 6) dX6_year_84 (by decide) ?_
        refine E_callS (As := [.int (nI y), .int 6]) (l' := [.int (nI y), .int 6, .null]) (st := []) dX6_year_86 kX6_255 sJ9_floorMod_7cf53 MJ9_floorMod_7cf53 rfl rfl (Nat.le_of_ble_eq_true rfl) (FC.use (c_fmod6 (d + 5) y (by omega)) rfl (L2 := [(0, .inr (6, [.ref 1, .ref 5, .ref 7, .ref 10, .ref 18, .ref 26, .ref 31, .ref 35, .ref 37, .int (nI rk)])), (1, .inr (0, [.ref 2, .ref 3, .ref 4, .int (skn s), .int (sdr s), .int (swa s), .int (sbu s), .int (sni s)])), (2, .inl (false, 6, sce s)), (3, .inl (false, 6, she s)), (4, .inl (false, 6, stu s)), (26, .inr (5, [.ref 27, .int y0, .int y1, .int y2, .int y3, .int y4, .int y5])), (27, .inr (0, [.ref 28, .ref 29, .ref 30, .int (skn z), .int (sdr z), .int (swa z), .int (sbu z), .int (sni z)])), (28, .inl (false, 6, sce z)), (29, .inl (false, 6, she z)), (30, .inl (false, 6, stu z))]) rfl) (Nat.le_of_ble_eq_true rfl) (fun _ _ hq9 => E_fgo ?_ hq9)
        show E _ _ 89 [.ref 0, .int (nI x), .int (nI m), .int 2, .ref 27, .int (nI y), .int (nI i), l7, l8, l9] [.int (nI (y % 6))] (hov hp [(0, .inr (6, [.ref 1, .ref 5, .ref 7, .ref 10, .ref 18, .ref 26, .ref 31, .ref 35, .ref 37, .int (nI rk)])), (1, .inr (0, [.ref 2, .ref 3, .ref 4, .int (skn s), .int (sdr s), .int (swa s), .int (sbu s), .int (sni s)])), (2, .inl (false, 6, sce s)), (3, .inl (false, 6, she s)), (4, .inl (false, 6, stu s)), (26, .inr (5, [.ref 27, .int y0, .int y1, .int y2, .int y3, .int y4, .int y5])), (27, .inr (0, [.ref 28, .ref 29, .ref 30, .int (skn z), .int (sdr z), .int (swa z), .int (sbu z), .int (sni z)])), (28, .inl (false, 6, sce z)), (29, .inl (false, 6, she z)), (30, .inl (false, 6, stu z))]) _
        refine E_istore (l2 := [.ref 0, .int (nI x), .int (nI m), .int 2, .ref 27, .int (nI y), .int (nI i), .int (nI (y % 6)), l8, l9]) dX6_year_89 (by decide) rfl ?_
        refine E_iload dX6_year_91 rfl ?_
        refine E_bipush (v := 6) dX6_year_93 (by decide) ?_
        refine E_idiv dX6_year_95 (by decide) ?_
        refine E_eqi (y := nI (y / 6)) (nI_d (by omega) (by decide) (by decide)) ?_
        refine E_bipush (v := 8) dX6_year_96 (by decide) ?_
        refine E_irem dX6_year_98 (by decide) ?_
        refine E_eqi (y := nI (y / 6 % 8)) (nI_r (by omega) (by decide) (by decide)) ?_
        refine E_iconst (v := 5) dX6_year_99 (by decide) ?_
        refine E_Mmin dX6_year_100 kX6_258 (Nat.le_of_ble_eq_true rfl) ?_
        refine E_eqi (y := 2) (by rw [hk]; decide) ?_
        refine E_istore (l2 := [.ref 0, .int (nI x), .int (nI m), .int 2, .ref 27, .int (nI y), .int (nI i), .int (nI (y % 6)), .int 2, l9]) dX6_year_103 (by decide) rfl ?_
        refine E_iload dX6_year_105 rfl ?_
        refine E_bipush (v := 48) dX6_year_107 (by decide) ?_
        refine E_idiv dX6_year_109 (by decide) ?_
        refine E_eqi (y := nI (y / 48)) (nI_d (by omega) (by decide) (by decide)) ?_
        refine E_bipush (v := 25) dX6_year_110 (by decide) ?_
        refine E_irem dX6_year_112 (by decide) ?_
        refine E_eqi (y := nI (y / 48 % 25)) (nI_r (by omega) (by decide) (by decide)) ?_
        refine E_istore (l2 := [.ref 0, .int (nI x), .int (nI m), .int 2, .ref 27, .int (nI y), .int (nI i), .int (nI (y % 6)), .int 2, .int (nI (y / 48 % 25))]) dX6_year_113 (by decide) rfl ?_
        refine E_aload dX6_year_115 rfl ?_
        refine E_iload dX6_year_117 rfl ?_
        refine E_iload dX6_year_119 rfl ?_
        refine E_iload dX6_year_121 rfl ?_
        refine E_callV (As := [.int 2, .int (nI (y % 6)), .int (nI (y / 48 % 25))]) (l' := [.ref 27, .int 2, .int (nI (y % 6)), .int (nI (y / 48 % 25))]) (st := []) dX6_year_123 kX6_261 iX0_reasonAgainst vX0_reasonAgainst (by decide) rfl rfl MX0_reasonAgainst rfl rfl (Nat.le_of_ble_eq_true rfl) (FC.use (c_reason_2 (d + 4) z (y % 6) (by omega) (nI (y / 48 % 25))) rfl (L2 := [(0, .inr (6, [.ref 1, .ref 5, .ref 7, .ref 10, .ref 18, .ref 26, .ref 31, .ref 35, .ref 37, .int (nI rk)])), (1, .inr (0, [.ref 2, .ref 3, .ref 4, .int (skn s), .int (sdr s), .int (swa s), .int (sbu s), .int (sni s)])), (2, .inl (false, 6, sce s)), (3, .inl (false, 6, she s)), (4, .inl (false, 6, stu s)), (26, .inr (5, [.ref 27, .int y0, .int y1, .int y2, .int y3, .int y4, .int y5])), (27, .inr (0, [.ref 28, .ref 29, .ref 30, .int (skn z), .int (sdr z), .int (swa z), .int (sbu z), .int (sni z)])), (28, .inl (false, 6, sce z)), (29, .inl (false, 6, she z)), (30, .inl (false, 6, stu z))]) rfl) (Nat.le_of_ble_eq_true rfl) (fun _ _ hq9 => E_fgo ?_ hq9)
        show E _ _ 126 [.ref 0, .int (nI x), .int (nI m), .int 2, .ref 27, .int (nI y), .int (nI i), .int (nI (y % 6)), .int 2, .int (nI (y / 48 % 25))] [.int (rsn z 2 (y % 6) (nI (y / 48 % 25)))] (hov hp [(0, .inr (6, [.ref 1, .ref 5, .ref 7, .ref 10, .ref 18, .ref 26, .ref 31, .ref 35, .ref 37, .int (nI rk)])), (1, .inr (0, [.ref 2, .ref 3, .ref 4, .int (skn s), .int (sdr s), .int (swa s), .int (sbu s), .int (sni s)])), (2, .inl (false, 6, sce s)), (3, .inl (false, 6, she s)), (4, .inl (false, 6, stu s)), (26, .inr (5, [.ref 27, .int y0, .int y1, .int y2, .int y3, .int y4, .int y5])), (27, .inr (0, [.ref 28, .ref 29, .ref 30, .int (skn z), .int (sdr z), .int (swa z), .int (sbu z), .int (sni z)])), (28, .inl (false, 6, sce z)), (29, .inl (false, 6, she z)), (30, .inl (false, 6, stu z))]) _
        refine E_if_ne (tgt := 141) dX6_year_126 (by decide) (fun c126 => ?_) (fun c126 => ?_)
        · refine E_iinc (y := nI (i + 1)) (l2 := [.ref 0, .int (nI x), .int (nI m), .int 2, .ref 27, .int (nI y), .int (nI (i + 1)), .int (nI (y % 6)), .int 2, .int (nI (y / 48 % 25))]) dX6_year_141 rfl (nI_1 _) (by decide) rfl ?_
          refine E_goto (tgt := 63) dX6_year_144 (by decide) ?_
          have e9 := ih (.int (nI (y % 6))) (.int 2) (.int (nI (y / 48 % 25)))
          rw [show yN z y = z from by rw [yN, show yK y = 2 from (by rw [yK, hk]; rfl), if_neg c126]] at e9
          exact e9
        · refine E_aload dX6_year_129 rfl ?_
          refine E_iload dX6_year_131 rfl ?_
          refine E_iload dX6_year_133 rfl ?_
          refine E_iload dX6_year_135 rfl ?_
          refine E_callV (As := [.int 2, .int (nI (y % 6)), .int (nI (y / 48 % 25))]) (l' := [.ref 27, .int 2, .int (nI (y % 6)), .int (nI (y / 48 % 25))]) (st := []) dX6_year_137 kX6_264 iX0_perform vX0_perform (by decide) rfl rfl MX0_perform rfl rfl (Nat.le_of_ble_eq_true rfl) (FC.use (c_perform_2 (d + 1) z (y % 6) (by omega) (nI (y / 48 % 25))) rfl (L2 := [(0, .inr (6, [.ref 1, .ref 5, .ref 7, .ref 10, .ref 18, .ref 26, .ref 31, .ref 35, .ref 37, .int (nI rk)])), (1, .inr (0, [.ref 2, .ref 3, .ref 4, .int (skn s), .int (sdr s), .int (swa s), .int (sbu s), .int (sni s)])), (2, .inl (false, 6, sce s)), (3, .inl (false, 6, she s)), (4, .inl (false, 6, stu s)), (26, .inr (5, [.ref 27, .int y0, .int y1, .int y2, .int y3, .int y4, .int y5])), (27, .inr (0, [.ref 28, .ref 29, .ref 30, .int (skn (prS z 2 (y % 6) (nI (y / 48 % 25)))), .int (sdr (prS z 2 (y % 6) (nI (y / 48 % 25)))), .int (swa (prS z 2 (y % 6) (nI (y / 48 % 25)))), .int (sbu (prS z 2 (y % 6) (nI (y / 48 % 25)))), .int (sni (prS z 2 (y % 6) (nI (y / 48 % 25))))])), (28, .inl (false, 6, sce (prS z 2 (y % 6) (nI (y / 48 % 25))))), (29, .inl (false, 6, she (prS z 2 (y % 6) (nI (y / 48 % 25))))), (30, .inl (false, 6, stu (prS z 2 (y % 6) (nI (y / 48 % 25)))))]) rfl) (Nat.le_of_ble_eq_true rfl) (fun _ _ hq9 => E_fgo ?_ hq9)
          show E _ _ 140 [.ref 0, .int (nI x), .int (nI m), .int 2, .ref 27, .int (nI y), .int (nI i), .int (nI (y % 6)), .int 2, .int (nI (y / 48 % 25))] [.int (prF z 2)] (hov hp [(0, .inr (6, [.ref 1, .ref 5, .ref 7, .ref 10, .ref 18, .ref 26, .ref 31, .ref 35, .ref 37, .int (nI rk)])), (1, .inr (0, [.ref 2, .ref 3, .ref 4, .int (skn s), .int (sdr s), .int (swa s), .int (sbu s), .int (sni s)])), (2, .inl (false, 6, sce s)), (3, .inl (false, 6, she s)), (4, .inl (false, 6, stu s)), (26, .inr (5, [.ref 27, .int y0, .int y1, .int y2, .int y3, .int y4, .int y5])), (27, .inr (0, [.ref 28, .ref 29, .ref 30, .int (skn (prS z 2 (y % 6) (nI (y / 48 % 25)))), .int (sdr (prS z 2 (y % 6) (nI (y / 48 % 25)))), .int (swa (prS z 2 (y % 6) (nI (y / 48 % 25)))), .int (sbu (prS z 2 (y % 6) (nI (y / 48 % 25)))), .int (sni (prS z 2 (y % 6) (nI (y / 48 % 25))))])), (28, .inl (false, 6, sce (prS z 2 (y % 6) (nI (y / 48 % 25))))), (29, .inl (false, 6, she (prS z 2 (y % 6) (nI (y / 48 % 25))))), (30, .inl (false, 6, stu (prS z 2 (y % 6) (nI (y / 48 % 25)))))]) _
          refine E_pop dX6_year_140 rfl ?_
          refine E_iinc (y := nI (i + 1)) (l2 := [.ref 0, .int (nI x), .int (nI m), .int 2, .ref 27, .int (nI y), .int (nI (i + 1)), .int (nI (y % 6)), .int 2, .int (nI (y / 48 % 25))]) dX6_year_141 rfl (nI_1 _) (by decide) rfl ?_
          refine E_goto (tgt := 63) dX6_year_144 (by decide) ?_
          have e9 := ih (.int (nI (y % 6))) (.int 2) (.int (nI (y / 48 % 25)))
          rw [show yN z y = prS z 2 (y % 6) (nI (y / 48 % 25)) from by rw [yN, show yK y = 2 from (by rw [yK, hk]; rfl), if_pos c126]] at e9
          exact e9
      · refine E_iload dX6_year_63 rfl ?_
        refine E_iload_n dX6_year_65 rfl ?_
        refine E_icmp_ge (tgt := 147) dX6_year_66 (by decide) (fun c => absurd c (nI_ge hi (by omega))) (fun _ => ?_)
        refine E_bipush (v := 75) dX6_year_69 (by decide) ?_
        refine E_iload dX6_year_71 rfl ?_
        refine E_imul dX6_year_73 ?_
        refine E_bipush (v := 74) dX6_year_74 (by decide) ?_
        refine E_iadd dX6_year_76 ?_
        refine E_ldc dX6_year_77 qX6_254 ?_
        refine E_irem dX6_year_79 (by decide) ?_
        refine E_eqi (y := nI y) (by rw [← hy]; exact yX_m hX) ?_
        refine E_istore (l2 := [.ref 0, .int (nI x), .int (nI m), .int 2, .ref 27, .int (nI y), .int (nI i), l7, l8, l9]) dX6_year_80 (by decide) rfl ?_
        refine E_iload dX6_year_82 rfl ?_
        refine E_bipush (v := 6) dX6_year_84 (by decide) ?_
        refine E_callS (As := [.int (nI y), .int 6]) (l' := [.int (nI y), .int 6, .null]) (st := []) dX6_year_86 kX6_255 sJ9_floorMod_7cf53 MJ9_floorMod_7cf53 rfl rfl (Nat.le_of_ble_eq_true rfl) (FC.use (c_fmod6 (d + 5) y (by omega)) rfl (L2 := [(0, .inr (6, [.ref 1, .ref 5, .ref 7, .ref 10, .ref 18, .ref 26, .ref 31, .ref 35, .ref 37, .int (nI rk)])), (1, .inr (0, [.ref 2, .ref 3, .ref 4, .int (skn s), .int (sdr s), .int (swa s), .int (sbu s), .int (sni s)])), (2, .inl (false, 6, sce s)), (3, .inl (false, 6, she s)), (4, .inl (false, 6, stu s)), (26, .inr (5, [.ref 27, .int y0, .int y1, .int y2, .int y3, .int y4, .int y5])), (27, .inr (0, [.ref 28, .ref 29, .ref 30, .int (skn z), .int (sdr z), .int (swa z), .int (sbu z), .int (sni z)])), (28, .inl (false, 6, sce z)), (29, .inl (false, 6, she z)), (30, .inl (false, 6, stu z))]) rfl) (Nat.le_of_ble_eq_true rfl) (fun _ _ hq9 => E_fgo ?_ hq9)
        show E _ _ 89 [.ref 0, .int (nI x), .int (nI m), .int 2, .ref 27, .int (nI y), .int (nI i), l7, l8, l9] [.int (nI (y % 6))] (hov hp [(0, .inr (6, [.ref 1, .ref 5, .ref 7, .ref 10, .ref 18, .ref 26, .ref 31, .ref 35, .ref 37, .int (nI rk)])), (1, .inr (0, [.ref 2, .ref 3, .ref 4, .int (skn s), .int (sdr s), .int (swa s), .int (sbu s), .int (sni s)])), (2, .inl (false, 6, sce s)), (3, .inl (false, 6, she s)), (4, .inl (false, 6, stu s)), (26, .inr (5, [.ref 27, .int y0, .int y1, .int y2, .int y3, .int y4, .int y5])), (27, .inr (0, [.ref 28, .ref 29, .ref 30, .int (skn z), .int (sdr z), .int (swa z), .int (sbu z), .int (sni z)])), (28, .inl (false, 6, sce z)), (29, .inl (false, 6, she z)), (30, .inl (false, 6, stu z))]) _
        refine E_istore (l2 := [.ref 0, .int (nI x), .int (nI m), .int 2, .ref 27, .int (nI y), .int (nI i), .int (nI (y % 6)), l8, l9]) dX6_year_89 (by decide) rfl ?_
        refine E_iload dX6_year_91 rfl ?_
        refine E_bipush (v := 6) dX6_year_93 (by decide) ?_
        refine E_idiv dX6_year_95 (by decide) ?_
        refine E_eqi (y := nI (y / 6)) (nI_d (by omega) (by decide) (by decide)) ?_
        refine E_bipush (v := 8) dX6_year_96 (by decide) ?_
        refine E_irem dX6_year_98 (by decide) ?_
        refine E_eqi (y := nI (y / 6 % 8)) (nI_r (by omega) (by decide) (by decide)) ?_
        refine E_iconst (v := 5) dX6_year_99 (by decide) ?_
        refine E_Mmin dX6_year_100 kX6_258 (Nat.le_of_ble_eq_true rfl) ?_
        refine E_eqi (y := 3) (by rw [hk]; decide) ?_
        refine E_istore (l2 := [.ref 0, .int (nI x), .int (nI m), .int 2, .ref 27, .int (nI y), .int (nI i), .int (nI (y % 6)), .int 3, l9]) dX6_year_103 (by decide) rfl ?_
        refine E_iload dX6_year_105 rfl ?_
        refine E_bipush (v := 48) dX6_year_107 (by decide) ?_
        refine E_idiv dX6_year_109 (by decide) ?_
        refine E_eqi (y := nI (y / 48)) (nI_d (by omega) (by decide) (by decide)) ?_
        refine E_bipush (v := 25) dX6_year_110 (by decide) ?_
        refine E_irem dX6_year_112 (by decide) ?_
        refine E_eqi (y := nI (y / 48 % 25)) (nI_r (by omega) (by decide) (by decide)) ?_
        refine E_istore (l2 := [.ref 0, .int (nI x), .int (nI m), .int 2, .ref 27, .int (nI y), .int (nI i), .int (nI (y % 6)), .int 3, .int (nI (y / 48 % 25))]) dX6_year_113 (by decide) rfl ?_
        refine E_aload dX6_year_115 rfl ?_
        refine E_iload dX6_year_117 rfl ?_
        refine E_iload dX6_year_119 rfl ?_
        refine E_iload dX6_year_121 rfl ?_
        refine E_callV (As := [.int 3, .int (nI (y % 6)), .int (nI (y / 48 % 25))]) (l' := [.ref 27, .int 3, .int (nI (y % 6)), .int (nI (y / 48 % 25))]) (st := []) dX6_year_123 kX6_261 iX0_reasonAgainst vX0_reasonAgainst (by decide) rfl rfl MX0_reasonAgainst rfl rfl (Nat.le_of_ble_eq_true rfl) (FC.use (c_reason_3 (d + 4) z (y % 6) (by omega) (nI (y / 48 % 25))) rfl (L2 := [(0, .inr (6, [.ref 1, .ref 5, .ref 7, .ref 10, .ref 18, .ref 26, .ref 31, .ref 35, .ref 37, .int (nI rk)])), (1, .inr (0, [.ref 2, .ref 3, .ref 4, .int (skn s), .int (sdr s), .int (swa s), .int (sbu s), .int (sni s)])), (2, .inl (false, 6, sce s)), (3, .inl (false, 6, she s)), (4, .inl (false, 6, stu s)), (26, .inr (5, [.ref 27, .int y0, .int y1, .int y2, .int y3, .int y4, .int y5])), (27, .inr (0, [.ref 28, .ref 29, .ref 30, .int (skn z), .int (sdr z), .int (swa z), .int (sbu z), .int (sni z)])), (28, .inl (false, 6, sce z)), (29, .inl (false, 6, she z)), (30, .inl (false, 6, stu z))]) rfl) (Nat.le_of_ble_eq_true rfl) (fun _ _ hq9 => E_fgo ?_ hq9)
        show E _ _ 126 [.ref 0, .int (nI x), .int (nI m), .int 2, .ref 27, .int (nI y), .int (nI i), .int (nI (y % 6)), .int 3, .int (nI (y / 48 % 25))] [.int (rsn z 3 (y % 6) (nI (y / 48 % 25)))] (hov hp [(0, .inr (6, [.ref 1, .ref 5, .ref 7, .ref 10, .ref 18, .ref 26, .ref 31, .ref 35, .ref 37, .int (nI rk)])), (1, .inr (0, [.ref 2, .ref 3, .ref 4, .int (skn s), .int (sdr s), .int (swa s), .int (sbu s), .int (sni s)])), (2, .inl (false, 6, sce s)), (3, .inl (false, 6, she s)), (4, .inl (false, 6, stu s)), (26, .inr (5, [.ref 27, .int y0, .int y1, .int y2, .int y3, .int y4, .int y5])), (27, .inr (0, [.ref 28, .ref 29, .ref 30, .int (skn z), .int (sdr z), .int (swa z), .int (sbu z), .int (sni z)])), (28, .inl (false, 6, sce z)), (29, .inl (false, 6, she z)), (30, .inl (false, 6, stu z))]) _
        refine E_if_ne (tgt := 141) dX6_year_126 (by decide) (fun c126 => ?_) (fun c126 => ?_)
        · refine E_iinc (y := nI (i + 1)) (l2 := [.ref 0, .int (nI x), .int (nI m), .int 2, .ref 27, .int (nI y), .int (nI (i + 1)), .int (nI (y % 6)), .int 3, .int (nI (y / 48 % 25))]) dX6_year_141 rfl (nI_1 _) (by decide) rfl ?_
          refine E_goto (tgt := 63) dX6_year_144 (by decide) ?_
          have e9 := ih (.int (nI (y % 6))) (.int 3) (.int (nI (y / 48 % 25)))
          rw [show yN z y = z from by rw [yN, show yK y = 3 from (by rw [yK, hk]; rfl), if_neg c126]] at e9
          exact e9
        · refine E_aload dX6_year_129 rfl ?_
          refine E_iload dX6_year_131 rfl ?_
          refine E_iload dX6_year_133 rfl ?_
          refine E_iload dX6_year_135 rfl ?_
          refine E_callV (As := [.int 3, .int (nI (y % 6)), .int (nI (y / 48 % 25))]) (l' := [.ref 27, .int 3, .int (nI (y % 6)), .int (nI (y / 48 % 25))]) (st := []) dX6_year_137 kX6_264 iX0_perform vX0_perform (by decide) rfl rfl MX0_perform rfl rfl (Nat.le_of_ble_eq_true rfl) (FC.use (c_perform_3 (d + 1) z (y % 6) (by omega) (nI (y / 48 % 25))) rfl (L2 := [(0, .inr (6, [.ref 1, .ref 5, .ref 7, .ref 10, .ref 18, .ref 26, .ref 31, .ref 35, .ref 37, .int (nI rk)])), (1, .inr (0, [.ref 2, .ref 3, .ref 4, .int (skn s), .int (sdr s), .int (swa s), .int (sbu s), .int (sni s)])), (2, .inl (false, 6, sce s)), (3, .inl (false, 6, she s)), (4, .inl (false, 6, stu s)), (26, .inr (5, [.ref 27, .int y0, .int y1, .int y2, .int y3, .int y4, .int y5])), (27, .inr (0, [.ref 28, .ref 29, .ref 30, .int (skn (prS z 3 (y % 6) (nI (y / 48 % 25)))), .int (sdr (prS z 3 (y % 6) (nI (y / 48 % 25)))), .int (swa (prS z 3 (y % 6) (nI (y / 48 % 25)))), .int (sbu (prS z 3 (y % 6) (nI (y / 48 % 25)))), .int (sni (prS z 3 (y % 6) (nI (y / 48 % 25))))])), (28, .inl (false, 6, sce (prS z 3 (y % 6) (nI (y / 48 % 25))))), (29, .inl (false, 6, she (prS z 3 (y % 6) (nI (y / 48 % 25))))), (30, .inl (false, 6, stu (prS z 3 (y % 6) (nI (y / 48 % 25)))))]) rfl) (Nat.le_of_ble_eq_true rfl) (fun _ _ hq9 => E_fgo ?_ hq9)
          show E _ _ 140 [.ref 0, .int (nI x), .int (nI m), .int 2, .ref 27, .int (nI y), .int (nI i), .int (nI (y % 6)), .int 3, .int (nI (y / 48 % 25))] [.int (prF z 3)] (hov hp [(0, .inr (6, [.ref 1, .ref 5, .ref 7, .ref 10, .ref 18, .ref 26, .ref 31, .ref 35, .ref 37, .int (nI rk)])), (1, .inr (0, [.ref 2, .ref 3, .ref 4, .int (skn s), .int (sdr s), .int (swa s), .int (sbu s), .int (sni s)])), (2, .inl (false, 6, sce s)), (3, .inl (false, 6, she s)), (4, .inl (false, 6, stu s)), (26, .inr (5, [.ref 27, .int y0, .int y1, .int y2, .int y3, .int y4, .int y5])), (27, .inr (0, [.ref 28, .ref 29, .ref 30, .int (skn (prS z 3 (y % 6) (nI (y / 48 % 25)))), .int (sdr (prS z 3 (y % 6) (nI (y / 48 % 25)))), .int (swa (prS z 3 (y % 6) (nI (y / 48 % 25)))), .int (sbu (prS z 3 (y % 6) (nI (y / 48 % 25)))), .int (sni (prS z 3 (y % 6) (nI (y / 48 % 25))))])), (28, .inl (false, 6, sce (prS z 3 (y % 6) (nI (y / 48 % 25))))), (29, .inl (false, 6, she (prS z 3 (y % 6) (nI (y / 48 % 25))))), (30, .inl (false, 6, stu (prS z 3 (y % 6) (nI (y / 48 % 25)))))]) _
          refine E_pop dX6_year_140 rfl ?_
          refine E_iinc (y := nI (i + 1)) (l2 := [.ref 0, .int (nI x), .int (nI m), .int 2, .ref 27, .int (nI y), .int (nI (i + 1)), .int (nI (y % 6)), .int 3, .int (nI (y / 48 % 25))]) dX6_year_141 rfl (nI_1 _) (by decide) rfl ?_
          refine E_goto (tgt := 63) dX6_year_144 (by decide) ?_
          have e9 := ih (.int (nI (y % 6))) (.int 3) (.int (nI (y / 48 % 25)))
          rw [show yN z y = prS z 3 (y % 6) (nI (y / 48 % 25)) from by rw [yN, show yK y = 3 from (by rw [yK, hk]; rfl), if_pos c126]] at e9
          exact e9
      · refine E_iload dX6_year_63 rfl ?_
        refine E_iload_n dX6_year_65 rfl ?_
        refine E_icmp_ge (tgt := 147) dX6_year_66 (by decide) (fun c => absurd c (nI_ge hi (by omega))) (fun _ => ?_)
        refine E_bipush (v := 75) dX6_year_69 (by decide) ?_
        refine E_iload dX6_year_71 rfl ?_
        refine E_imul dX6_year_73 ?_
        refine E_bipush (v := 74) dX6_year_74 (by decide) ?_
        refine E_iadd dX6_year_76 ?_
        refine E_ldc dX6_year_77 qX6_254 ?_
        refine E_irem dX6_year_79 (by decide) ?_
        refine E_eqi (y := nI y) (by rw [← hy]; exact yX_m hX) ?_
        refine E_istore (l2 := [.ref 0, .int (nI x), .int (nI m), .int 2, .ref 27, .int (nI y), .int (nI i), l7, l8, l9]) dX6_year_80 (by decide) rfl ?_
        refine E_iload dX6_year_82 rfl ?_
        refine E_bipush (v := 6) dX6_year_84 (by decide) ?_
        refine E_callS (As := [.int (nI y), .int 6]) (l' := [.int (nI y), .int 6, .null]) (st := []) dX6_year_86 kX6_255 sJ9_floorMod_7cf53 MJ9_floorMod_7cf53 rfl rfl (Nat.le_of_ble_eq_true rfl) (FC.use (c_fmod6 (d + 5) y (by omega)) rfl (L2 := [(0, .inr (6, [.ref 1, .ref 5, .ref 7, .ref 10, .ref 18, .ref 26, .ref 31, .ref 35, .ref 37, .int (nI rk)])), (1, .inr (0, [.ref 2, .ref 3, .ref 4, .int (skn s), .int (sdr s), .int (swa s), .int (sbu s), .int (sni s)])), (2, .inl (false, 6, sce s)), (3, .inl (false, 6, she s)), (4, .inl (false, 6, stu s)), (26, .inr (5, [.ref 27, .int y0, .int y1, .int y2, .int y3, .int y4, .int y5])), (27, .inr (0, [.ref 28, .ref 29, .ref 30, .int (skn z), .int (sdr z), .int (swa z), .int (sbu z), .int (sni z)])), (28, .inl (false, 6, sce z)), (29, .inl (false, 6, she z)), (30, .inl (false, 6, stu z))]) rfl) (Nat.le_of_ble_eq_true rfl) (fun _ _ hq9 => E_fgo ?_ hq9)
        show E _ _ 89 [.ref 0, .int (nI x), .int (nI m), .int 2, .ref 27, .int (nI y), .int (nI i), l7, l8, l9] [.int (nI (y % 6))] (hov hp [(0, .inr (6, [.ref 1, .ref 5, .ref 7, .ref 10, .ref 18, .ref 26, .ref 31, .ref 35, .ref 37, .int (nI rk)])), (1, .inr (0, [.ref 2, .ref 3, .ref 4, .int (skn s), .int (sdr s), .int (swa s), .int (sbu s), .int (sni s)])), (2, .inl (false, 6, sce s)), (3, .inl (false, 6, she s)), (4, .inl (false, 6, stu s)), (26, .inr (5, [.ref 27, .int y0, .int y1, .int y2, .int y3, .int y4, .int y5])), (27, .inr (0, [.ref 28, .ref 29, .ref 30, .int (skn z), .int (sdr z), .int (swa z), .int (sbu z), .int (sni z)])), (28, .inl (false, 6, sce z)), (29, .inl (false, 6, she z)), (30, .inl (false, 6, stu z))]) _
        refine E_istore (l2 := [.ref 0, .int (nI x), .int (nI m), .int 2, .ref 27, .int (nI y), .int (nI i), .int (nI (y % 6)), l8, l9]) dX6_year_89 (by decide) rfl ?_
        refine E_iload dX6_year_91 rfl ?_
        refine E_bipush (v := 6) dX6_year_93 (by decide) ?_
        refine E_idiv dX6_year_95 (by decide) ?_
        refine E_eqi (y := nI (y / 6)) (nI_d (by omega) (by decide) (by decide)) ?_
        refine E_bipush (v := 8) dX6_year_96 (by decide) ?_
        refine E_irem dX6_year_98 (by decide) ?_
        refine E_eqi (y := nI (y / 6 % 8)) (nI_r (by omega) (by decide) (by decide)) ?_
        refine E_iconst (v := 5) dX6_year_99 (by decide) ?_
        refine E_Mmin dX6_year_100 kX6_258 (Nat.le_of_ble_eq_true rfl) ?_
        refine E_eqi (y := 4) (by rw [hk]; decide) ?_
        refine E_istore (l2 := [.ref 0, .int (nI x), .int (nI m), .int 2, .ref 27, .int (nI y), .int (nI i), .int (nI (y % 6)), .int 4, l9]) dX6_year_103 (by decide) rfl ?_
        refine E_iload dX6_year_105 rfl ?_
        refine E_bipush (v := 48) dX6_year_107 (by decide) ?_
        refine E_idiv dX6_year_109 (by decide) ?_
        refine E_eqi (y := nI (y / 48)) (nI_d (by omega) (by decide) (by decide)) ?_
        refine E_bipush (v := 25) dX6_year_110 (by decide) ?_
        refine E_irem dX6_year_112 (by decide) ?_
        refine E_eqi (y := nI (y / 48 % 25)) (nI_r (by omega) (by decide) (by decide)) ?_
        refine E_istore (l2 := [.ref 0, .int (nI x), .int (nI m), .int 2, .ref 27, .int (nI y), .int (nI i), .int (nI (y % 6)), .int 4, .int (nI (y / 48 % 25))]) dX6_year_113 (by decide) rfl ?_
        refine E_aload dX6_year_115 rfl ?_
        refine E_iload dX6_year_117 rfl ?_
        refine E_iload dX6_year_119 rfl ?_
        refine E_iload dX6_year_121 rfl ?_
        refine E_callV (As := [.int 4, .int (nI (y % 6)), .int (nI (y / 48 % 25))]) (l' := [.ref 27, .int 4, .int (nI (y % 6)), .int (nI (y / 48 % 25))]) (st := []) dX6_year_123 kX6_261 iX0_reasonAgainst vX0_reasonAgainst (by decide) rfl rfl MX0_reasonAgainst rfl rfl (Nat.le_of_ble_eq_true rfl) (FC.use (c_reason_4 (d + 4) z (y % 6) (by omega) (nI (y / 48 % 25))) rfl (L2 := [(0, .inr (6, [.ref 1, .ref 5, .ref 7, .ref 10, .ref 18, .ref 26, .ref 31, .ref 35, .ref 37, .int (nI rk)])), (1, .inr (0, [.ref 2, .ref 3, .ref 4, .int (skn s), .int (sdr s), .int (swa s), .int (sbu s), .int (sni s)])), (2, .inl (false, 6, sce s)), (3, .inl (false, 6, she s)), (4, .inl (false, 6, stu s)), (26, .inr (5, [.ref 27, .int y0, .int y1, .int y2, .int y3, .int y4, .int y5])), (27, .inr (0, [.ref 28, .ref 29, .ref 30, .int (skn z), .int (sdr z), .int (swa z), .int (sbu z), .int (sni z)])), (28, .inl (false, 6, sce z)), (29, .inl (false, 6, she z)), (30, .inl (false, 6, stu z))]) rfl) (Nat.le_of_ble_eq_true rfl) (fun _ _ hq9 => E_fgo ?_ hq9)
        show E _ _ 126 [.ref 0, .int (nI x), .int (nI m), .int 2, .ref 27, .int (nI y), .int (nI i), .int (nI (y % 6)), .int 4, .int (nI (y / 48 % 25))] [.int (rsn z 4 (y % 6) (nI (y / 48 % 25)))] (hov hp [(0, .inr (6, [.ref 1, .ref 5, .ref 7, .ref 10, .ref 18, .ref 26, .ref 31, .ref 35, .ref 37, .int (nI rk)])), (1, .inr (0, [.ref 2, .ref 3, .ref 4, .int (skn s), .int (sdr s), .int (swa s), .int (sbu s), .int (sni s)])), (2, .inl (false, 6, sce s)), (3, .inl (false, 6, she s)), (4, .inl (false, 6, stu s)), (26, .inr (5, [.ref 27, .int y0, .int y1, .int y2, .int y3, .int y4, .int y5])), (27, .inr (0, [.ref 28, .ref 29, .ref 30, .int (skn z), .int (sdr z), .int (swa z), .int (sbu z), .int (sni z)])), (28, .inl (false, 6, sce z)), (29, .inl (false, 6, she z)), (30, .inl (false, 6, stu z))]) _
        refine E_if_ne (tgt := 141) dX6_year_126 (by decide) (fun c126 => ?_) (fun c126 => ?_)
        · refine E_iinc (y := nI (i + 1)) (l2 := [.ref 0, .int (nI x), .int (nI m), .int 2, .ref 27, .int (nI y), .int (nI (i + 1)), .int (nI (y % 6)), .int 4, .int (nI (y / 48 % 25))]) dX6_year_141 rfl (nI_1 _) (by decide) rfl ?_
          refine E_goto (tgt := 63) dX6_year_144 (by decide) ?_
          have e9 := ih (.int (nI (y % 6))) (.int 4) (.int (nI (y / 48 % 25)))
          rw [show yN z y = z from by rw [yN, show yK y = 4 from (by rw [yK, hk]; rfl), if_neg c126]] at e9
          exact e9
        · refine E_aload dX6_year_129 rfl ?_
          refine E_iload dX6_year_131 rfl ?_
          refine E_iload dX6_year_133 rfl ?_
          refine E_iload dX6_year_135 rfl ?_
          refine E_callV (As := [.int 4, .int (nI (y % 6)), .int (nI (y / 48 % 25))]) (l' := [.ref 27, .int 4, .int (nI (y % 6)), .int (nI (y / 48 % 25))]) (st := []) dX6_year_137 kX6_264 iX0_perform vX0_perform (by decide) rfl rfl MX0_perform rfl rfl (Nat.le_of_ble_eq_true rfl) (FC.use (c_perform_4 (d + 1) z (y % 6) (by omega) (nI (y / 48 % 25))) rfl (L2 := [(0, .inr (6, [.ref 1, .ref 5, .ref 7, .ref 10, .ref 18, .ref 26, .ref 31, .ref 35, .ref 37, .int (nI rk)])), (1, .inr (0, [.ref 2, .ref 3, .ref 4, .int (skn s), .int (sdr s), .int (swa s), .int (sbu s), .int (sni s)])), (2, .inl (false, 6, sce s)), (3, .inl (false, 6, she s)), (4, .inl (false, 6, stu s)), (26, .inr (5, [.ref 27, .int y0, .int y1, .int y2, .int y3, .int y4, .int y5])), (27, .inr (0, [.ref 28, .ref 29, .ref 30, .int (skn (prS z 4 (y % 6) (nI (y / 48 % 25)))), .int (sdr (prS z 4 (y % 6) (nI (y / 48 % 25)))), .int (swa (prS z 4 (y % 6) (nI (y / 48 % 25)))), .int (sbu (prS z 4 (y % 6) (nI (y / 48 % 25)))), .int (sni (prS z 4 (y % 6) (nI (y / 48 % 25))))])), (28, .inl (false, 6, sce (prS z 4 (y % 6) (nI (y / 48 % 25))))), (29, .inl (false, 6, she (prS z 4 (y % 6) (nI (y / 48 % 25))))), (30, .inl (false, 6, stu (prS z 4 (y % 6) (nI (y / 48 % 25)))))]) rfl) (Nat.le_of_ble_eq_true rfl) (fun _ _ hq9 => E_fgo ?_ hq9)
          show E _ _ 140 [.ref 0, .int (nI x), .int (nI m), .int 2, .ref 27, .int (nI y), .int (nI i), .int (nI (y % 6)), .int 4, .int (nI (y / 48 % 25))] [.int (prF z 4)] (hov hp [(0, .inr (6, [.ref 1, .ref 5, .ref 7, .ref 10, .ref 18, .ref 26, .ref 31, .ref 35, .ref 37, .int (nI rk)])), (1, .inr (0, [.ref 2, .ref 3, .ref 4, .int (skn s), .int (sdr s), .int (swa s), .int (sbu s), .int (sni s)])), (2, .inl (false, 6, sce s)), (3, .inl (false, 6, she s)), (4, .inl (false, 6, stu s)), (26, .inr (5, [.ref 27, .int y0, .int y1, .int y2, .int y3, .int y4, .int y5])), (27, .inr (0, [.ref 28, .ref 29, .ref 30, .int (skn (prS z 4 (y % 6) (nI (y / 48 % 25)))), .int (sdr (prS z 4 (y % 6) (nI (y / 48 % 25)))), .int (swa (prS z 4 (y % 6) (nI (y / 48 % 25)))), .int (sbu (prS z 4 (y % 6) (nI (y / 48 % 25)))), .int (sni (prS z 4 (y % 6) (nI (y / 48 % 25))))])), (28, .inl (false, 6, sce (prS z 4 (y % 6) (nI (y / 48 % 25))))), (29, .inl (false, 6, she (prS z 4 (y % 6) (nI (y / 48 % 25))))), (30, .inl (false, 6, stu (prS z 4 (y % 6) (nI (y / 48 % 25)))))]) _
          refine E_pop dX6_year_140 rfl ?_
          refine E_iinc (y := nI (i + 1)) (l2 := [.ref 0, .int (nI x), .int (nI m), .int 2, .ref 27, .int (nI y), .int (nI (i + 1)), .int (nI (y % 6)), .int 4, .int (nI (y / 48 % 25))]) dX6_year_141 rfl (nI_1 _) (by decide) rfl ?_
          refine E_goto (tgt := 63) dX6_year_144 (by decide) ?_
          have e9 := ih (.int (nI (y % 6))) (.int 4) (.int (nI (y / 48 % 25)))
          rw [show yN z y = prS z 4 (y % 6) (nI (y / 48 % 25)) from by rw [yN, show yK y = 4 from (by rw [yK, hk]; rfl), if_pos c126]] at e9
          exact e9
      · refine E_iload dX6_year_63 rfl ?_
        refine E_iload_n dX6_year_65 rfl ?_
        refine E_icmp_ge (tgt := 147) dX6_year_66 (by decide) (fun c => absurd c (nI_ge hi (by omega))) (fun _ => ?_)
        refine E_bipush (v := 75) dX6_year_69 (by decide) ?_
        refine E_iload dX6_year_71 rfl ?_
        refine E_imul dX6_year_73 ?_
        refine E_bipush (v := 74) dX6_year_74 (by decide) ?_
        refine E_iadd dX6_year_76 ?_
        refine E_ldc dX6_year_77 qX6_254 ?_
        refine E_irem dX6_year_79 (by decide) ?_
        refine E_eqi (y := nI y) (by rw [← hy]; exact yX_m hX) ?_
        refine E_istore (l2 := [.ref 0, .int (nI x), .int (nI m), .int 2, .ref 27, .int (nI y), .int (nI i), l7, l8, l9]) dX6_year_80 (by decide) rfl ?_
        refine E_iload dX6_year_82 rfl ?_
        refine E_bipush (v := 6) dX6_year_84 (by decide) ?_
        refine E_callS (As := [.int (nI y), .int 6]) (l' := [.int (nI y), .int 6, .null]) (st := []) dX6_year_86 kX6_255 sJ9_floorMod_7cf53 MJ9_floorMod_7cf53 rfl rfl (Nat.le_of_ble_eq_true rfl) (FC.use (c_fmod6 (d + 5) y (by omega)) rfl (L2 := [(0, .inr (6, [.ref 1, .ref 5, .ref 7, .ref 10, .ref 18, .ref 26, .ref 31, .ref 35, .ref 37, .int (nI rk)])), (1, .inr (0, [.ref 2, .ref 3, .ref 4, .int (skn s), .int (sdr s), .int (swa s), .int (sbu s), .int (sni s)])), (2, .inl (false, 6, sce s)), (3, .inl (false, 6, she s)), (4, .inl (false, 6, stu s)), (26, .inr (5, [.ref 27, .int y0, .int y1, .int y2, .int y3, .int y4, .int y5])), (27, .inr (0, [.ref 28, .ref 29, .ref 30, .int (skn z), .int (sdr z), .int (swa z), .int (sbu z), .int (sni z)])), (28, .inl (false, 6, sce z)), (29, .inl (false, 6, she z)), (30, .inl (false, 6, stu z))]) rfl) (Nat.le_of_ble_eq_true rfl) (fun _ _ hq9 => E_fgo ?_ hq9)
        show E _ _ 89 [.ref 0, .int (nI x), .int (nI m), .int 2, .ref 27, .int (nI y), .int (nI i), l7, l8, l9] [.int (nI (y % 6))] (hov hp [(0, .inr (6, [.ref 1, .ref 5, .ref 7, .ref 10, .ref 18, .ref 26, .ref 31, .ref 35, .ref 37, .int (nI rk)])), (1, .inr (0, [.ref 2, .ref 3, .ref 4, .int (skn s), .int (sdr s), .int (swa s), .int (sbu s), .int (sni s)])), (2, .inl (false, 6, sce s)), (3, .inl (false, 6, she s)), (4, .inl (false, 6, stu s)), (26, .inr (5, [.ref 27, .int y0, .int y1, .int y2, .int y3, .int y4, .int y5])), (27, .inr (0, [.ref 28, .ref 29, .ref 30, .int (skn z), .int (sdr z), .int (swa z), .int (sbu z), .int (sni z)])), (28, .inl (false, 6, sce z)), (29, .inl (false, 6, she z)), (30, .inl (false, 6, stu z))]) _
        refine E_istore (l2 := [.ref 0, .int (nI x), .int (nI m), .int 2, .ref 27, .int (nI y), .int (nI i), .int (nI (y % 6)), l8, l9]) dX6_year_89 (by decide) rfl ?_
        refine E_iload dX6_year_91 rfl ?_
        refine E_bipush (v := 6) dX6_year_93 (by decide) ?_
        refine E_idiv dX6_year_95 (by decide) ?_
        refine E_eqi (y := nI (y / 6)) (nI_d (by omega) (by decide) (by decide)) ?_
        refine E_bipush (v := 8) dX6_year_96 (by decide) ?_
        refine E_irem dX6_year_98 (by decide) ?_
        refine E_eqi (y := nI (y / 6 % 8)) (nI_r (by omega) (by decide) (by decide)) ?_
        refine E_iconst (v := 5) dX6_year_99 (by decide) ?_
        refine E_Mmin dX6_year_100 kX6_258 (Nat.le_of_ble_eq_true rfl) ?_
        refine E_eqi (y := 5) (min5 hk (by omega)) ?_
        refine E_istore (l2 := [.ref 0, .int (nI x), .int (nI m), .int 2, .ref 27, .int (nI y), .int (nI i), .int (nI (y % 6)), .int 5, l9]) dX6_year_103 (by decide) rfl ?_
        refine E_iload dX6_year_105 rfl ?_
        refine E_bipush (v := 48) dX6_year_107 (by decide) ?_
        refine E_idiv dX6_year_109 (by decide) ?_
        refine E_eqi (y := nI (y / 48)) (nI_d (by omega) (by decide) (by decide)) ?_
        refine E_bipush (v := 25) dX6_year_110 (by decide) ?_
        refine E_irem dX6_year_112 (by decide) ?_
        refine E_eqi (y := nI (y / 48 % 25)) (nI_r (by omega) (by decide) (by decide)) ?_
        refine E_istore (l2 := [.ref 0, .int (nI x), .int (nI m), .int 2, .ref 27, .int (nI y), .int (nI i), .int (nI (y % 6)), .int 5, .int (nI (y / 48 % 25))]) dX6_year_113 (by decide) rfl ?_
        refine E_aload dX6_year_115 rfl ?_
        refine E_iload dX6_year_117 rfl ?_
        refine E_iload dX6_year_119 rfl ?_
        refine E_iload dX6_year_121 rfl ?_
        refine E_callV (As := [.int 5, .int (nI (y % 6)), .int (nI (y / 48 % 25))]) (l' := [.ref 27, .int 5, .int (nI (y % 6)), .int (nI (y / 48 % 25))]) (st := []) dX6_year_123 kX6_261 iX0_reasonAgainst vX0_reasonAgainst (by decide) rfl rfl MX0_reasonAgainst rfl rfl (Nat.le_of_ble_eq_true rfl) (FC.use (c_reason_5 (d + 4) z (y % 6) (by omega) (nI (y / 48 % 25))) rfl (L2 := [(0, .inr (6, [.ref 1, .ref 5, .ref 7, .ref 10, .ref 18, .ref 26, .ref 31, .ref 35, .ref 37, .int (nI rk)])), (1, .inr (0, [.ref 2, .ref 3, .ref 4, .int (skn s), .int (sdr s), .int (swa s), .int (sbu s), .int (sni s)])), (2, .inl (false, 6, sce s)), (3, .inl (false, 6, she s)), (4, .inl (false, 6, stu s)), (26, .inr (5, [.ref 27, .int y0, .int y1, .int y2, .int y3, .int y4, .int y5])), (27, .inr (0, [.ref 28, .ref 29, .ref 30, .int (skn z), .int (sdr z), .int (swa z), .int (sbu z), .int (sni z)])), (28, .inl (false, 6, sce z)), (29, .inl (false, 6, she z)), (30, .inl (false, 6, stu z))]) rfl) (Nat.le_of_ble_eq_true rfl) (fun _ _ hq9 => E_fgo ?_ hq9)
        show E _ _ 126 [.ref 0, .int (nI x), .int (nI m), .int 2, .ref 27, .int (nI y), .int (nI i), .int (nI (y % 6)), .int 5, .int (nI (y / 48 % 25))] [.int (rsn z 5 (y % 6) (nI (y / 48 % 25)))] (hov hp [(0, .inr (6, [.ref 1, .ref 5, .ref 7, .ref 10, .ref 18, .ref 26, .ref 31, .ref 35, .ref 37, .int (nI rk)])), (1, .inr (0, [.ref 2, .ref 3, .ref 4, .int (skn s), .int (sdr s), .int (swa s), .int (sbu s), .int (sni s)])), (2, .inl (false, 6, sce s)), (3, .inl (false, 6, she s)), (4, .inl (false, 6, stu s)), (26, .inr (5, [.ref 27, .int y0, .int y1, .int y2, .int y3, .int y4, .int y5])), (27, .inr (0, [.ref 28, .ref 29, .ref 30, .int (skn z), .int (sdr z), .int (swa z), .int (sbu z), .int (sni z)])), (28, .inl (false, 6, sce z)), (29, .inl (false, 6, she z)), (30, .inl (false, 6, stu z))]) _
        refine E_if_ne (tgt := 141) dX6_year_126 (by decide) (fun c126 => ?_) (fun c126 => ?_)
        · refine E_iinc (y := nI (i + 1)) (l2 := [.ref 0, .int (nI x), .int (nI m), .int 2, .ref 27, .int (nI y), .int (nI (i + 1)), .int (nI (y % 6)), .int 5, .int (nI (y / 48 % 25))]) dX6_year_141 rfl (nI_1 _) (by decide) rfl ?_
          refine E_goto (tgt := 63) dX6_year_144 (by decide) ?_
          have e9 := ih (.int (nI (y % 6))) (.int 5) (.int (nI (y / 48 % 25)))
          rw [show yN z y = z from by rw [yN, show yK y = 5 from (by rw [yK, if_neg (by omega)]), if_neg c126]] at e9
          exact e9
        · refine E_aload dX6_year_129 rfl ?_
          refine E_iload dX6_year_131 rfl ?_
          refine E_iload dX6_year_133 rfl ?_
          refine E_iload dX6_year_135 rfl ?_
          refine E_callV (As := [.int 5, .int (nI (y % 6)), .int (nI (y / 48 % 25))]) (l' := [.ref 27, .int 5, .int (nI (y % 6)), .int (nI (y / 48 % 25))]) (st := []) dX6_year_137 kX6_264 iX0_perform vX0_perform (by decide) rfl rfl MX0_perform rfl rfl (Nat.le_of_ble_eq_true rfl) (FC.use (c_perform_5 (d + 1) z (y % 6) (by omega) (nI (y / 48 % 25))) rfl (L2 := [(0, .inr (6, [.ref 1, .ref 5, .ref 7, .ref 10, .ref 18, .ref 26, .ref 31, .ref 35, .ref 37, .int (nI rk)])), (1, .inr (0, [.ref 2, .ref 3, .ref 4, .int (skn s), .int (sdr s), .int (swa s), .int (sbu s), .int (sni s)])), (2, .inl (false, 6, sce s)), (3, .inl (false, 6, she s)), (4, .inl (false, 6, stu s)), (26, .inr (5, [.ref 27, .int y0, .int y1, .int y2, .int y3, .int y4, .int y5])), (27, .inr (0, [.ref 28, .ref 29, .ref 30, .int (skn (prS z 5 (y % 6) (nI (y / 48 % 25)))), .int (sdr (prS z 5 (y % 6) (nI (y / 48 % 25)))), .int (swa (prS z 5 (y % 6) (nI (y / 48 % 25)))), .int (sbu (prS z 5 (y % 6) (nI (y / 48 % 25)))), .int (sni (prS z 5 (y % 6) (nI (y / 48 % 25))))])), (28, .inl (false, 6, sce (prS z 5 (y % 6) (nI (y / 48 % 25))))), (29, .inl (false, 6, she (prS z 5 (y % 6) (nI (y / 48 % 25))))), (30, .inl (false, 6, stu (prS z 5 (y % 6) (nI (y / 48 % 25)))))]) rfl) (Nat.le_of_ble_eq_true rfl) (fun _ _ hq9 => E_fgo ?_ hq9)
          show E _ _ 140 [.ref 0, .int (nI x), .int (nI m), .int 2, .ref 27, .int (nI y), .int (nI i), .int (nI (y % 6)), .int 5, .int (nI (y / 48 % 25))] [.int (prF z 5)] (hov hp [(0, .inr (6, [.ref 1, .ref 5, .ref 7, .ref 10, .ref 18, .ref 26, .ref 31, .ref 35, .ref 37, .int (nI rk)])), (1, .inr (0, [.ref 2, .ref 3, .ref 4, .int (skn s), .int (sdr s), .int (swa s), .int (sbu s), .int (sni s)])), (2, .inl (false, 6, sce s)), (3, .inl (false, 6, she s)), (4, .inl (false, 6, stu s)), (26, .inr (5, [.ref 27, .int y0, .int y1, .int y2, .int y3, .int y4, .int y5])), (27, .inr (0, [.ref 28, .ref 29, .ref 30, .int (skn (prS z 5 (y % 6) (nI (y / 48 % 25)))), .int (sdr (prS z 5 (y % 6) (nI (y / 48 % 25)))), .int (swa (prS z 5 (y % 6) (nI (y / 48 % 25)))), .int (sbu (prS z 5 (y % 6) (nI (y / 48 % 25)))), .int (sni (prS z 5 (y % 6) (nI (y / 48 % 25))))])), (28, .inl (false, 6, sce (prS z 5 (y % 6) (nI (y / 48 % 25))))), (29, .inl (false, 6, she (prS z 5 (y % 6) (nI (y / 48 % 25))))), (30, .inl (false, 6, stu (prS z 5 (y % 6) (nI (y / 48 % 25)))))]) _
          refine E_pop dX6_year_140 rfl ?_
          refine E_iinc (y := nI (i + 1)) (l2 := [.ref 0, .int (nI x), .int (nI m), .int 2, .ref 27, .int (nI y), .int (nI (i + 1)), .int (nI (y % 6)), .int 5, .int (nI (y / 48 % 25))]) dX6_year_141 rfl (nI_1 _) (by decide) rfl ?_
          refine E_goto (tgt := 63) dX6_year_144 (by decide) ?_
          have e9 := ih (.int (nI (y % 6))) (.int 5) (.int (nI (y / 48 % 25)))
          rw [show yN z y = prS z 5 (y % 6) (nI (y / 48 % 25)) from by rw [yN, show yK y = 5 from (by rw [yK, if_neg (by omega)]), if_pos c126]] at e9
          exact e9
  exact L63 0 (by omega) _ _ _
