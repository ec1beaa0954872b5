/-! rows of turfs, the reference's way -/
def cmx (f : Nat → Int32) (r t : Nat) : Nat → Nat → Int32
  | 0 => f
  | i + 1 => upd (cmx f r t i) (K i ^^^ K (r - t - i)) 1
def cmA (i : Nat) : Nat → Int32 := cmx (cmx (fun _ => 0) (i + 1) 1 (i + 1)) (i + 1) 2 i
def cmF (cm : Nat → Int32) : Nat → Nat → Int32
  | 0 => cm
  | i + 1 => cmA i
set_option maxRecDepth 100000 in
theorem cm_ok : ∀ i, i < 60 → (∀ j, j < K (i + 1) → cmA i j = 1) ∧ cmA i (K (i + 1)) = 0 := by decide +kernel
set_option maxRecDepth 100000 in
theorem xr_k : ∀ a, a < 16 → ∀ b, b < 16 → (nI a ^^^ nI b) = nI (a ^^^ b) ∧ a ^^^ b < 16 := by decide +kernel
theorem xr_N {i j : Nat} (hi : i < 61) (hj : j < 61) : (nI (K i) ^^^ nI (K j)) = nI (K i ^^^ K j) := (xr_k _ (K_lt i hi) _ (K_lt j hj)).1
theorem xr_l {i j : Nat} (hi : i < 61) (hj : j < 61) : K i ^^^ K j < 16 := (xr_k _ (K_lt i hi) _ (K_lt j hj)).2
theorem cmx_z {f : Nat → Int32} {r t : Nat} (hr : r < 61) (hf : ∀ j, 64 ≤ j → f j = 0) : ∀ i, i ≤ 60 → ∀ j, 64 ≤ j → cmx f r t i j = 0
  | 0, _, j, hj => hf j hj
  | i + 1, hi, j, hj => by
    have := xr_l (i := i) (j := r - t - i) (by omega) (by omega)
    show upd _ _ _ j = 0
    simp only [upd]
    rw [if_neg (by omega)]
    exact cmx_z hr hf i (by omega) j hj
theorem cmF_z {cm : Nat → Int32} (h : ∀ j, 64 ≤ j → cm j = 0) : ∀ i, i ≤ 60 → ∀ j, 64 ≤ j → cmF cm i j = 0
  | 0, _, j, hj => h j hj
  | i + 1, hi, j, hj => cmx_z (by omega) (fun j hj => cmx_z (by omega) (fun _ _ => rfl) (i + 1) (by omega) j hj) i (by omega) j hj
set_option maxRecDepth 100000 in
theorem wt_K : ∀ n, n < 61 → (wtR n = -6 ↔ K n = 0) := by decide +kernel

set_option maxHeartbeats 4000000 in
set_option maxRecDepth 20000 in
theorem m_lay (d : Nat) (bu fl fa fw fr rs ac : Int32) (q pn : Nat) (wo cm : Nat → Int32) (hwo : ∀ i, i < 1 → wo i = nI (K i)) (hcm : ∀ j, 64 ≤ j → cm j = 0) (n : Nat) (hn : n ≤ 60) : FC YX7_layWorth d [.ref 38, .int (nI n), .null, .null, .null] [(38, .inr (7, [.ref 39, .ref 40, .int bu, .int (nI q), .ref 41, .int (nI pn), .ref 42, .int fl, .int fa, .int fw, .int fr, .int rs, .int ac, .ref 43, .ref 44, .ref 45, .ref 46, .ref 47, .ref 48, .ref 49])), (46, .inl (false, 61, wo)), (47, .inl (true, 64, cm))] (none) [(38, .inr (7, [.ref 39, .ref 40, .int bu, .int (nI q), .ref 41, .int (nI pn), .ref 42, .int fl, .int fa, .int fw, .int fr, .int rs, .int ac, .ref 43, .ref 44, .ref 45, .ref 46, .ref 47, .ref 48, .ref 49])), (46, .inl (false, 61, (rvK wo 1 (n + 1)))), (47, .inl (true, 64, (cmF cm n)))] := by
  intro hp
  have L : ∀ i, i ≤ n → ∀ l3 l4 : Value, E YX7_layWorth d 2 [.ref 38, .int (nI n), .int (nI (i + 1)), l3, l4] [] (hov hp [(38, .inr (7, [.ref 39, .ref 40, .int bu, .int (nI q), .ref 41, .int (nI pn), .ref 42, .int fl, .int fa, .int fw, .int fr, .int rs, .int ac, .ref 43, .ref 44, .ref 45, .ref 46, .ref 47, .ref 48, .ref 49])), (46, .inl (false, 61, (rvK wo 1 (i + 1)))), (47, .inl (true, 64, (cmF cm i)))]) (fun v h' => v = none ∧ h' = hov hp [(38, .inr (7, [.ref 39, .ref 40, .int bu, .int (nI q), .ref 41, .int (nI pn), .ref 42, .int fl, .int fa, .int fw, .int fr, .int rs, .int ac, .ref 43, .ref 44, .ref 45, .ref 46, .ref 47, .ref 48, .ref 49])), (46, .inl (false, 61, (rvK wo 1 (n + 1)))), (47, .inl (true, 64, (cmF cm n)))]) := by
    refine down n ?_ ?_
    · intro l3 l4
      refine E_iload_n dX7_layWorth_2 rfl ?_
      refine E_iload_n dX7_layWorth_3 rfl ?_
      refine E_icmp_gt (tgt := 113) dX7_layWorth_4 (by decide) (fun _ => ?_) (fun c => absurd (nI_lt (by omega) (by omega)) c)
      exact E_vretf dX7_layWorth_113 rfl rfl
    · intro i hi ih l3 l4
      have hz := cm_ok i (by omega)
      have hK := K_lt (i + 1) (by omega)
      have LV : ∀ j, j ≤ K (i + 1) → ∀ l4 : Value, E YX7_layWorth d 85 [.ref 38, .int (nI n), .int (nI (i + 1)), .int (nI j), l4] [] (hov hp [(38, .inr (7, [.ref 39, .ref 40, .int bu, .int (nI q), .ref 41, .int (nI pn), .ref 42, .int fl, .int fa, .int fw, .int fr, .int rs, .int ac, .ref 43, .ref 44, .ref 45, .ref 46, .ref 47, .ref 48, .ref 49])), (46, .inl (false, 61, (rvK wo 1 (i + 1)))), (47, .inl (true, 64, (cmA i)))]) (fun v h' => v = none ∧ h' = hov hp [(38, .inr (7, [.ref 39, .ref 40, .int bu, .int (nI q), .ref 41, .int (nI pn), .ref 42, .int fl, .int fa, .int fw, .int fr, .int rs, .int ac, .ref 43, .ref 44, .ref 45, .ref 46, .ref 47, .ref 48, .ref 49])), (46, .inl (false, 61, (rvK wo 1 (n + 1)))), (47, .inl (true, 64, (cmF cm n)))]) := by
        refine down (K (i + 1)) ?_ ?_
        · intro l4
          refine E_aload_n dX7_layWorth_85 rfl ?_
          refine E_get dX7_layWorth_86 fX7_38 (by decide) rfl rfl ?_
          refine E_iload_n dX7_layWorth_89 rfl ?_
          refine E_zaldN (j := (K (i + 1))) dX7_layWorth_90 (by decide) rfl (by omega) (by decide) ?_
          refine E_if_eq (tgt := 100) dX7_layWorth_91 (by decide) (fun _ => ?_) (fun c => absurd hz.2 c)
          refine E_aload_n dX7_layWorth_100 rfl ?_
          refine E_get dX7_layWorth_101 fX7_35 (by decide) rfl rfl ?_
          refine E_iload_n dX7_layWorth_104 rfl ?_
          refine E_iload_n dX7_layWorth_105 rfl ?_
          refine E_iastN (j := i + 1) (f2 := rvK wo 1 (i + 1 + 1)) (L2 := [(38, .inr (7, [.ref 39, .ref 40, .int bu, .int (nI q), .ref 41, .int (nI pn), .ref 42, .int fl, .int fa, .int fw, .int fr, .int rs, .int ac, .ref 43, .ref 44, .ref 45, .ref 46, .ref 47, .ref 48, .ref 49])), (46, .inl (false, 61, (rvK wo 1 (i + 1 + 1)))), (47, .inl (true, 64, (cmA i)))]) dX7_layWorth_106 (by decide) rfl (by omega) (by decide) (rvK_s (by omega)) rfl ?_
          refine E_iinc (y := nI (i + 1 + 1)) (l2 := [.ref 38, .int (nI n), .int (nI (i + 1 + 1)), .int (nI (K (i + 1))), l4]) dX7_layWorth_107 rfl (nI_1 _) (by decide) rfl ?_
          refine E_goto (tgt := 2) dX7_layWorth_110 (by decide) ?_
          exact ih (.int (nI (K (i + 1)))) l4
        · intro j hj ihj l4
          refine E_aload_n dX7_layWorth_85 rfl ?_
          refine E_get dX7_layWorth_86 fX7_38 (by decide) rfl rfl ?_
          refine E_iload_n dX7_layWorth_89 rfl ?_
          refine E_zaldN (j := j) dX7_layWorth_90 (by decide) rfl (by omega) (by decide) ?_
          refine E_if_eq (tgt := 100) dX7_layWorth_91 (by decide) (fun c => absurd c (by rw [hz.1 j hj]; decide)) (fun _ => ?_)
          refine E_iinc (y := nI (j + 1)) (l2 := [.ref 38, .int (nI n), .int (nI (i + 1)), .int (nI (j + 1)), l4]) dX7_layWorth_94 rfl (nI_1 _) (by decide) rfl ?_
          refine E_goto (tgt := 85) dX7_layWorth_97 (by decide) ?_
          exact ihj _
      have L2 : ∀ j, j ≤ i → E YX7_layWorth d 38 [.ref 38, .int (nI n), .int (nI (i + 1)), .int 2, .int (nI j)] [] (hov hp [(38, .inr (7, [.ref 39, .ref 40, .int bu, .int (nI q), .ref 41, .int (nI pn), .ref 42, .int fl, .int fa, .int fw, .int fr, .int rs, .int ac, .ref 43, .ref 44, .ref 45, .ref 46, .ref 47, .ref 48, .ref 49])), (46, .inl (false, 61, (rvK wo 1 (i + 1)))), (47, .inl (true, 64, (cmx (cmx (fun _ => 0) (i + 1) 1 (i + 1)) (i + 1) 2 j)))]) (fun v h' => v = none ∧ h' = hov hp [(38, .inr (7, [.ref 39, .ref 40, .int bu, .int (nI q), .ref 41, .int (nI pn), .ref 42, .int fl, .int fa, .int fw, .int fr, .int rs, .int ac, .ref 43, .ref 44, .ref 45, .ref 46, .ref 47, .ref 48, .ref 49])), (46, .inl (false, 61, (rvK wo 1 (n + 1)))), (47, .inl (true, 64, (cmF cm n)))]) := by
        refine down i ?_ ?_
        · refine E_iload dX7_layWorth_38 rfl ?_
          refine E_iload_n dX7_layWorth_40 rfl ?_
          refine E_iadd dX7_layWorth_41 ?_
          refine E_eqi (y := nI (i + 2)) (nI_add _ 2) ?_
          refine E_iload_n dX7_layWorth_42 rfl ?_
          refine E_icmp_gt (tgt := 77) dX7_layWorth_43 (by decide) (fun _ => ?_) (fun c => absurd (nI_lt (by omega) (by omega)) c)
          refine E_iinc (y := 3) (l2 := [.ref 38, .int (nI n), .int (nI (i + 1)), .int 3, .int (nI i)]) dX7_layWorth_77 rfl (by decide) (by decide) rfl ?_
          refine E_goto (tgt := 30) dX7_layWorth_80 (by decide) ?_
          refine E_iload_n dX7_layWorth_30 rfl ?_
          refine E_iconst (v := 3) dX7_layWorth_31 (by decide) ?_
          refine E_icmp_ge (tgt := 83) dX7_layWorth_32 (by decide) (fun _ => ?_) (fun c => by first | exact absurd c (by decide) | exact absurd (by decide) c)
          refine E_iconst (v := 0) dX7_layWorth_83 (by decide) ?_
          refine E_istore_n (l2 := [.ref 38, .int (nI n), .int (nI (i + 1)), .int 0, .int (nI i)]) dX7_layWorth_84 rfl (by decide) rfl ?_
          exact LV 0 (by omega) _
        · intro j hj ihj
          refine E_iload dX7_layWorth_38 rfl ?_
          refine E_iload_n dX7_layWorth_40 rfl ?_
          refine E_iadd dX7_layWorth_41 ?_
          refine E_eqi (y := nI (j + 2)) (nI_add _ 2) ?_
          refine E_iload_n dX7_layWorth_42 rfl ?_
          refine E_icmp_gt (tgt := 77) dX7_layWorth_43 (by decide) (fun c => absurd c (nI_nlt (by omega) (by omega))) (fun _ => ?_)
          refine E_aload_n dX7_layWorth_46 rfl ?_
          refine E_get dX7_layWorth_47 fX7_38 (by decide) rfl rfl ?_
          refine E_aload_n dX7_layWorth_50 rfl ?_
          refine E_get dX7_layWorth_51 fX7_35 (by decide) rfl rfl ?_
          refine E_iload dX7_layWorth_54 rfl ?_
          refine E_ialdN (j := j) dX7_layWorth_56 (by decide) rfl (by omega) (by decide) ?_
          refine E_eqi (y := nI (K j)) (rvK_g hwo (by omega)) ?_
          refine E_aload_n dX7_layWorth_57 rfl ?_
          refine E_get dX7_layWorth_58 fX7_35 (by decide) rfl rfl ?_
          refine E_iload_n dX7_layWorth_61 rfl ?_
          refine E_iload_n dX7_layWorth_62 rfl ?_
          refine E_isub dX7_layWorth_63 ?_
          refine E_eqi (y := nI (i + 1 - 2)) (pk_sub (a := i + 1) (b := 2) (by omega)) ?_
          refine E_iload dX7_layWorth_64 rfl ?_
          refine E_isub dX7_layWorth_66 ?_
          refine E_eqi (y := nI (i + 1 - 2 - j)) (pk_sub (by omega)) ?_
          refine E_ialdN (j := i + 1 - 2 - j) dX7_layWorth_67 (by decide) rfl (by omega) (by decide) ?_
          refine E_eqi (y := nI (K (i + 1 - 2 - j))) (rvK_g hwo (by omega)) ?_
          refine E_ixor dX7_layWorth_68 ?_
          refine E_eqi (y := nI (K j ^^^ K (i + 1 - 2 - j))) (xr_N (by omega) (by omega)) ?_
          refine E_iconst (v := 1) dX7_layWorth_69 (by decide) ?_
          refine E_zastN (j := K j ^^^ K (i + 1 - 2 - j)) (f2 := cmx (cmx (fun _ => 0) (i + 1) 1 (i + 1)) (i + 1) 2 (j + 1)) (L2 := [(38, .inr (7, [.ref 39, .ref 40, .int bu, .int (nI q), .ref 41, .int (nI pn), .ref 42, .int fl, .int fa, .int fw, .int fr, .int rs, .int ac, .ref 43, .ref 44, .ref 45, .ref 46, .ref 47, .ref 48, .ref 49])), (46, .inl (false, 61, (rvK wo 1 (i + 1)))), (47, .inl (true, 64, (cmx (cmx (fun _ => 0) (i + 1) 1 (i + 1)) (i + 1) 2 (j + 1))))]) dX7_layWorth_70 (by decide) rfl (Nat.lt_of_lt_of_le (xr_l (by omega) (by omega)) (by decide)) (by decide) rfl rfl ?_
          refine E_iinc (y := nI (j + 1)) (l2 := [.ref 38, .int (nI n), .int (nI (i + 1)), .int 2, .int (nI (j + 1))]) dX7_layWorth_71 rfl (nI_1 _) (by decide) rfl ?_
          refine E_goto (tgt := 38) dX7_layWorth_74 (by decide) ?_
          exact ihj
      have L1 : ∀ j, j ≤ (i + 1) → E YX7_layWorth d 38 [.ref 38, .int (nI n), .int (nI (i + 1)), .int 1, .int (nI j)] [] (hov hp [(38, .inr (7, [.ref 39, .ref 40, .int bu, .int (nI q), .ref 41, .int (nI pn), .ref 42, .int fl, .int fa, .int fw, .int fr, .int rs, .int ac, .ref 43, .ref 44, .ref 45, .ref 46, .ref 47, .ref 48, .ref 49])), (46, .inl (false, 61, (rvK wo 1 (i + 1)))), (47, .inl (true, 64, (cmx (fun _ => 0) (i + 1) 1 j)))]) (fun v h' => v = none ∧ h' = hov hp [(38, .inr (7, [.ref 39, .ref 40, .int bu, .int (nI q), .ref 41, .int (nI pn), .ref 42, .int fl, .int fa, .int fw, .int fr, .int rs, .int ac, .ref 43, .ref 44, .ref 45, .ref 46, .ref 47, .ref 48, .ref 49])), (46, .inl (false, 61, (rvK wo 1 (n + 1)))), (47, .inl (true, 64, (cmF cm n)))]) := by
        refine down (i + 1) ?_ ?_
        · refine E_iload dX7_layWorth_38 rfl ?_
          refine E_iload_n dX7_layWorth_40 rfl ?_
          refine E_iadd dX7_layWorth_41 ?_
          refine E_eqi (y := nI ((i + 1) + 1)) (nI_add _ 1) ?_
          refine E_iload_n dX7_layWorth_42 rfl ?_
          refine E_icmp_gt (tgt := 77) dX7_layWorth_43 (by decide) (fun _ => ?_) (fun c => absurd (nI_lt (by omega) (by omega)) c)
          refine E_iinc (y := 2) (l2 := [.ref 38, .int (nI n), .int (nI (i + 1)), .int 2, .int (nI (i + 1))]) dX7_layWorth_77 rfl (by decide) (by decide) rfl ?_
          refine E_goto (tgt := 30) dX7_layWorth_80 (by decide) ?_
          refine E_iload_n dX7_layWorth_30 rfl ?_
          refine E_iconst (v := 3) dX7_layWorth_31 (by decide) ?_
          refine E_icmp_ge (tgt := 83) dX7_layWorth_32 (by decide) (fun c => by first | exact absurd c (by decide) | exact absurd (by decide) c) (fun _ => ?_)
          refine E_iconst (v := 0) dX7_layWorth_35 (by decide) ?_
          refine E_istore (l2 := [.ref 38, .int (nI n), .int (nI (i + 1)), .int 2, .int 0]) dX7_layWorth_36 (by decide) rfl ?_
          exact L2 0 (by omega)
        · intro j hj ihj
          refine E_iload dX7_layWorth_38 rfl ?_
          refine E_iload_n dX7_layWorth_40 rfl ?_
          refine E_iadd dX7_layWorth_41 ?_
          refine E_eqi (y := nI (j + 1)) (nI_add _ 1) ?_
          refine E_iload_n dX7_layWorth_42 rfl ?_
          refine E_icmp_gt (tgt := 77) dX7_layWorth_43 (by decide) (fun c => absurd c (nI_nlt (by omega) (by omega))) (fun _ => ?_)
          refine E_aload_n dX7_layWorth_46 rfl ?_
          refine E_get dX7_layWorth_47 fX7_38 (by decide) rfl rfl ?_
          refine E_aload_n dX7_layWorth_50 rfl ?_
          refine E_get dX7_layWorth_51 fX7_35 (by decide) rfl rfl ?_
          refine E_iload dX7_layWorth_54 rfl ?_
          refine E_ialdN (j := j) dX7_layWorth_56 (by decide) rfl (by omega) (by decide) ?_
          refine E_eqi (y := nI (K j)) (rvK_g hwo (by omega)) ?_
          refine E_aload_n dX7_layWorth_57 rfl ?_
          refine E_get dX7_layWorth_58 fX7_35 (by decide) rfl rfl ?_
          refine E_iload_n dX7_layWorth_61 rfl ?_
          refine E_iload_n dX7_layWorth_62 rfl ?_
          refine E_isub dX7_layWorth_63 ?_
          refine E_eqi (y := nI (i + 1 - 1)) (pk_sub (a := i + 1) (b := 1) (by omega)) ?_
          refine E_iload dX7_layWorth_64 rfl ?_
          refine E_isub dX7_layWorth_66 ?_
          refine E_eqi (y := nI (i + 1 - 1 - j)) (pk_sub (by omega)) ?_
          refine E_ialdN (j := i + 1 - 1 - j) dX7_layWorth_67 (by decide) rfl (by omega) (by decide) ?_
          refine E_eqi (y := nI (K (i + 1 - 1 - j))) (rvK_g hwo (by omega)) ?_
          refine E_ixor dX7_layWorth_68 ?_
          refine E_eqi (y := nI (K j ^^^ K (i + 1 - 1 - j))) (xr_N (by omega) (by omega)) ?_
          refine E_iconst (v := 1) dX7_layWorth_69 (by decide) ?_
          refine E_zastN (j := K j ^^^ K (i + 1 - 1 - j)) (f2 := cmx (fun _ => 0) (i + 1) 1 (j + 1)) (L2 := [(38, .inr (7, [.ref 39, .ref 40, .int bu, .int (nI q), .ref 41, .int (nI pn), .ref 42, .int fl, .int fa, .int fw, .int fr, .int rs, .int ac, .ref 43, .ref 44, .ref 45, .ref 46, .ref 47, .ref 48, .ref 49])), (46, .inl (false, 61, (rvK wo 1 (i + 1)))), (47, .inl (true, 64, (cmx (fun _ => 0) (i + 1) 1 (j + 1))))]) dX7_layWorth_70 (by decide) rfl (Nat.lt_of_lt_of_le (xr_l (by omega) (by omega)) (by decide)) (by decide) rfl rfl ?_
          refine E_iinc (y := nI (j + 1)) (l2 := [.ref 38, .int (nI n), .int (nI (i + 1)), .int 1, .int (nI (j + 1))]) dX7_layWorth_71 rfl (nI_1 _) (by decide) rfl ?_
          refine E_goto (tgt := 38) dX7_layWorth_74 (by decide) ?_
          exact ihj
      have LZ : ∀ j, j ≤ 64 → ∀ l4 : Value, E YX7_layWorth d 9 [.ref 38, .int (nI n), .int (nI (i + 1)), .int (nI j), l4] [] (hov hp [(38, .inr (7, [.ref 39, .ref 40, .int bu, .int (nI q), .ref 41, .int (nI pn), .ref 42, .int fl, .int fa, .int fw, .int fr, .int rs, .int ac, .ref 43, .ref 44, .ref 45, .ref 46, .ref 47, .ref 48, .ref 49])), (46, .inl (false, 61, (rvK wo 1 (i + 1)))), (47, .inl (true, 64, (cpy (cmF cm i) (fun _ => 0) j)))]) (fun v h' => v = none ∧ h' = hov hp [(38, .inr (7, [.ref 39, .ref 40, .int bu, .int (nI q), .ref 41, .int (nI pn), .ref 42, .int fl, .int fa, .int fw, .int fr, .int rs, .int ac, .ref 43, .ref 44, .ref 45, .ref 46, .ref 47, .ref 48, .ref 49])), (46, .inl (false, 61, (rvK wo 1 (n + 1)))), (47, .inl (true, 64, (cmF cm n)))]) := by
        refine down 64 ?_ ?_
        · intro l4
          rw [cpy_all (g := fun _ => 0) (cmF_z hcm i (by omega))]
          refine E_iload_n dX7_layWorth_9 rfl ?_
          refine E_bipush (v := 64) dX7_layWorth_10 (by decide) ?_
          refine E_icmp_ge (tgt := 28) dX7_layWorth_12 (by decide) (fun _ => ?_) (fun c => absurd (by decide) c)
          refine E_iconst (v := 1) dX7_layWorth_28 (by decide) ?_
          refine E_istore_n (l2 := [.ref 38, .int (nI n), .int (nI (i + 1)), .int 1, l4]) dX7_layWorth_29 rfl (by decide) rfl ?_
          refine E_iload_n dX7_layWorth_30 rfl ?_
          refine E_iconst (v := 3) dX7_layWorth_31 (by decide) ?_
          refine E_icmp_ge (tgt := 83) dX7_layWorth_32 (by decide) (fun c => by first | exact absurd c (by decide) | exact absurd (by decide) c) (fun _ => ?_)
          refine E_iconst (v := 0) dX7_layWorth_35 (by decide) ?_
          refine E_istore (l2 := [.ref 38, .int (nI n), .int (nI (i + 1)), .int 1, .int 0]) dX7_layWorth_36 (by decide) rfl ?_
          exact L1 0 (by omega)
        · intro j hj ihj l4
          refine E_iload_n dX7_layWorth_9 rfl ?_
          refine E_bipush (v := 64) dX7_layWorth_10 (by decide) ?_
          refine E_icmp_ge (tgt := 28) dX7_layWorth_12 (by decide) (fun c => absurd c (cI_nle (n := 64) rfl hj (by decide))) (fun _ => ?_)
          refine E_aload_n dX7_layWorth_15 rfl ?_
          refine E_get dX7_layWorth_16 fX7_38 (by decide) rfl rfl ?_
          refine E_iload_n dX7_layWorth_19 rfl ?_
          refine E_iconst (v := 0) dX7_layWorth_20 (by decide) ?_
          refine E_zastN (j := j) (f2 := cpy (cmF cm i) (fun _ => 0) (j + 1)) (L2 := [(38, .inr (7, [.ref 39, .ref 40, .int bu, .int (nI q), .ref 41, .int (nI pn), .ref 42, .int fl, .int fa, .int fw, .int fr, .int rs, .int ac, .ref 43, .ref 44, .ref 45, .ref 46, .ref 47, .ref 48, .ref 49])), (46, .inl (false, 61, (rvK wo 1 (i + 1)))), (47, .inl (true, 64, (cpy (cmF cm i) (fun _ => 0) (j + 1))))]) dX7_layWorth_21 (by decide) rfl (by omega) (by decide) (cpy_s _ (fun _ => 0) _) rfl ?_
          refine E_iinc (y := nI (j + 1)) (l2 := [.ref 38, .int (nI n), .int (nI (i + 1)), .int (nI (j + 1)), l4]) dX7_layWorth_22 rfl (nI_1 _) (by decide) rfl ?_
          refine E_goto (tgt := 9) dX7_layWorth_25 (by decide) ?_
          exact ihj _
      refine E_iload_n dX7_layWorth_2 rfl ?_
      refine E_iload_n dX7_layWorth_3 rfl ?_
      refine E_icmp_gt (tgt := 113) dX7_layWorth_4 (by decide) (fun c => absurd c (nI_nlt (by omega) (by omega))) (fun _ => ?_)
      refine E_iconst (v := 0) dX7_layWorth_7 (by decide) ?_
      refine E_istore_n (l2 := [.ref 38, .int (nI n), .int (nI (i + 1)), .int 0, l4]) dX7_layWorth_8 rfl (by decide) rfl ?_
      have e0 := LZ 0 (by decide) l4
      rw [cpy_0] at e0
      exact e0
  refine E_iconst (v := 1) dX7_layWorth_0 (by decide) ?_
  refine E_istore_n (l2 := [.ref 38, .int (nI n), .int 1, .null, .null]) dX7_layWorth_1 rfl (by decide) rfl ?_
  have e0 := L 0 (by omega) .null .null
  rw [rvK_0] at e0
  exact e0

set_option maxHeartbeats 4000000 in
set_option maxRecDepth 20000 in
theorem m_tak_o1 (d : Nat) (bu fl fa fw fr rs ac : Int32) (q pn : Nat) (x y : Int32) (h1 : inI x 0 60 = false) : FC YX7_takes (d + 1) [.ref 38, .int x, .int y, .null, .null] [(38, .inr (7, [.ref 39, .ref 40, .int bu, .int (nI q), .ref 41, .int (nI pn), .ref 42, .int fl, .int fa, .int fw, .int fr, .int rs, .int ac, .ref 43, .ref 44, .ref 45, .ref 46, .ref 47, .ref 48, .ref 49]))] (some (.int (-2))) [(38, .inr (7, [.ref 39, .ref 40, .int bu, .int (nI q), .ref 41, .int (nI pn), .ref 42, .int fl, .int fa, .int fw, .int fr, .int rs, .int ac, .ref 43, .ref 44, .ref 45, .ref 46, .ref 47, .ref 48, .ref 49]))] := by
  intro hp
  refine E_iload_n dX7_takes_0 rfl ?_
  refine E_iconst (v := 0) dX7_takes_1 (by decide) ?_
  refine E_bipush (v := 60) dX7_takes_2 (by decide) ?_
  refine E_callS (As := [.int x, .int 0, .int 60]) (l' := [.int x, .int 0, .int 60]) (st := []) dX7_takes_4 kX7_48 sX7_in MX7_in rfl rfl (Nat.le_of_ble_eq_true rfl) (FC.use (c_in d _ _ _) rfl (L2 := [(38, .inr (7, [.ref 39, .ref 40, .int bu, .int (nI q), .ref 41, .int (nI pn), .ref 42, .int fl, .int fa, .int fw, .int fr, .int rs, .int ac, .ref 43, .ref 44, .ref 45, .ref 46, .ref 47, .ref 48, .ref 49]))]) rfl) (Nat.le_of_ble_eq_true rfl) (fun _ _ hq9 => E_fgo ?_ hq9)
  show E _ _ 7 [.ref 38, .int x, .int y, .null, .null] [.int (b2i (inI x 0 60))] (hov hp [(38, .inr (7, [.ref 39, .ref 40, .int bu, .int (nI q), .ref 41, .int (nI pn), .ref 42, .int fl, .int fa, .int fw, .int fr, .int rs, .int ac, .ref 43, .ref 44, .ref 45, .ref 46, .ref 47, .ref 48, .ref 49]))]) _
  refine E_if_eq (tgt := 19) dX7_takes_7 (by decide) (fun _ => ?_) (fun c => (b2i_x0 h1 c).elim)
  refine E_bipush (v := (-2)) dX7_takes_19 (by decide) ?_
  exact E_iretf dX7_takes_21 rfl rfl rfl rfl

set_option maxHeartbeats 4000000 in
set_option maxRecDepth 20000 in
theorem m_tak_o2 (d : Nat) (bu fl fa fw fr rs ac : Int32) (q pn : Nat) (x y : Int32) (h1 : inI x 0 60 = true) (h2 : inI y 0 1 = false) : FC YX7_takes (d + 1) [.ref 38, .int x, .int y, .null, .null] [(38, .inr (7, [.ref 39, .ref 40, .int bu, .int (nI q), .ref 41, .int (nI pn), .ref 42, .int fl, .int fa, .int fw, .int fr, .int rs, .int ac, .ref 43, .ref 44, .ref 45, .ref 46, .ref 47, .ref 48, .ref 49]))] (some (.int (-2))) [(38, .inr (7, [.ref 39, .ref 40, .int bu, .int (nI q), .ref 41, .int (nI pn), .ref 42, .int fl, .int fa, .int fw, .int fr, .int rs, .int ac, .ref 43, .ref 44, .ref 45, .ref 46, .ref 47, .ref 48, .ref 49]))] := by
  intro hp
  refine E_iload_n dX7_takes_0 rfl ?_
  refine E_iconst (v := 0) dX7_takes_1 (by decide) ?_
  refine E_bipush (v := 60) dX7_takes_2 (by decide) ?_
  refine E_callS (As := [.int x, .int 0, .int 60]) (l' := [.int x, .int 0, .int 60]) (st := []) dX7_takes_4 kX7_48 sX7_in MX7_in rfl rfl (Nat.le_of_ble_eq_true rfl) (FC.use (c_in d _ _ _) rfl (L2 := [(38, .inr (7, [.ref 39, .ref 40, .int bu, .int (nI q), .ref 41, .int (nI pn), .ref 42, .int fl, .int fa, .int fw, .int fr, .int rs, .int ac, .ref 43, .ref 44, .ref 45, .ref 46, .ref 47, .ref 48, .ref 49]))]) rfl) (Nat.le_of_ble_eq_true rfl) (fun _ _ hq9 => E_fgo ?_ hq9)
  show E _ _ 7 [.ref 38, .int x, .int y, .null, .null] [.int (b2i (inI x 0 60))] (hov hp [(38, .inr (7, [.ref 39, .ref 40, .int bu, .int (nI q), .ref 41, .int (nI pn), .ref 42, .int fl, .int fa, .int fw, .int fr, .int rs, .int ac, .ref 43, .ref 44, .ref 45, .ref 46, .ref 47, .ref 48, .ref 49]))]) _
  refine E_if_eq (tgt := 19) dX7_takes_7 (by decide) (fun c => (b2i_x1 h1 c).elim) (fun _ => ?_)
  refine E_iload_n dX7_takes_10 rfl ?_
  refine E_iconst (v := 0) dX7_takes_11 (by decide) ?_
  refine E_iconst (v := 1) dX7_takes_12 (by decide) ?_
  refine E_callS (As := [.int y, .int 0, .int 1]) (l' := [.int y, .int 0, .int 1]) (st := []) dX7_takes_13 kX7_48 sX7_in MX7_in rfl rfl (Nat.le_of_ble_eq_true rfl) (FC.use (c_in d _ _ _) rfl (L2 := [(38, .inr (7, [.ref 39, .ref 40, .int bu, .int (nI q), .ref 41, .int (nI pn), .ref 42, .int fl, .int fa, .int fw, .int fr, .int rs, .int ac, .ref 43, .ref 44, .ref 45, .ref 46, .ref 47, .ref 48, .ref 49]))]) rfl) (Nat.le_of_ble_eq_true rfl) (fun _ _ hq9 => E_fgo ?_ hq9)
  show E _ _ 16 [.ref 38, .int x, .int y, .null, .null] [.int (b2i (inI y 0 1))] (hov hp [(38, .inr (7, [.ref 39, .ref 40, .int bu, .int (nI q), .ref 41, .int (nI pn), .ref 42, .int fl, .int fa, .int fw, .int fr, .int rs, .int ac, .ref 43, .ref 44, .ref 45, .ref 46, .ref 47, .ref 48, .ref 49]))]) _
  refine E_if_ne (tgt := 22) dX7_takes_16 (by decide) (fun c => (b2i_x0 h2 c).elim) (fun _ => ?_)
  refine E_bipush (v := (-2)) dX7_takes_19 (by decide) ?_
  exact E_iretf dX7_takes_21 rfl rfl rfl rfl

set_option maxHeartbeats 4000000 in
set_option maxRecDepth 20000 in
theorem m_tak_0y (d : Nat) (bu fl fa fw fr rs ac : Int32) (q pn : Nat) (wo cm : Nat → Int32) (hwo : ∀ i, i < 1 → wo i = nI (K i)) (hcm : ∀ j, 64 ≤ j → cm j = 0) (n : Nat) (hn : n ≤ 60) (h1 : inI (nI n) 0 60 = true) (hw : wtR n = -6) : FC YX7_takes (d + 1) [.ref 38, .int (nI n), .int 0, .null, .null] [(38, .inr (7, [.ref 39, .ref 40, .int bu, .int (nI q), .ref 41, .int (nI pn), .ref 42, .int fl, .int fa, .int fw, .int fr, .int rs, .int ac, .ref 43, .ref 44, .ref 45, .ref 46, .ref 47, .ref 48, .ref 49])), (46, .inl (false, 61, wo)), (47, .inl (true, 64, cm))] (some (.int 0)) [(38, .inr (7, [.ref 39, .ref 40, .int bu, .int (nI q), .ref 41, .int (nI pn), .ref 42, .int fl, .int fa, .int fw, .int fr, .int rs, .int ac, .ref 43, .ref 44, .ref 45, .ref 46, .ref 47, .ref 48, .ref 49])), (46, .inl (false, 61, (rvK wo 1 (n + 1)))), (47, .inl (true, 64, (cmF cm n)))] := by
  intro hp
  refine E_iload_n dX7_takes_0 rfl ?_
  refine E_iconst (v := 0) dX7_takes_1 (by decide) ?_
  refine E_bipush (v := 60) dX7_takes_2 (by decide) ?_
  refine E_callS (As := [.int (nI n), .int 0, .int 60]) (l' := [.int (nI n), .int 0, .int 60]) (st := []) dX7_takes_4 kX7_48 sX7_in MX7_in rfl rfl (Nat.le_of_ble_eq_true rfl) (FC.use (c_in d _ _ _) rfl (L2 := [(38, .inr (7, [.ref 39, .ref 40, .int bu, .int (nI q), .ref 41, .int (nI pn), .ref 42, .int fl, .int fa, .int fw, .int fr, .int rs, .int ac, .ref 43, .ref 44, .ref 45, .ref 46, .ref 47, .ref 48, .ref 49])), (46, .inl (false, 61, wo)), (47, .inl (true, 64, cm))]) rfl) (Nat.le_of_ble_eq_true rfl) (fun _ _ hq9 => E_fgo ?_ hq9)
  show E _ _ 7 [.ref 38, .int (nI n), .int 0, .null, .null] [.int (b2i (inI (nI n) 0 60))] (hov hp [(38, .inr (7, [.ref 39, .ref 40, .int bu, .int (nI q), .ref 41, .int (nI pn), .ref 42, .int fl, .int fa, .int fw, .int fr, .int rs, .int ac, .ref 43, .ref 44, .ref 45, .ref 46, .ref 47, .ref 48, .ref 49])), (46, .inl (false, 61, wo)), (47, .inl (true, 64, cm))]) _
  refine E_if_eq (tgt := 19) dX7_takes_7 (by decide) (fun c => (b2i_x1 h1 c).elim) (fun _ => ?_)
  refine E_iload_n dX7_takes_10 rfl ?_
  refine E_iconst (v := 0) dX7_takes_11 (by decide) ?_
  refine E_iconst (v := 1) dX7_takes_12 (by decide) ?_
  refine E_callS (As := [.int 0, .int 0, .int 1]) (l' := [.int 0, .int 0, .int 1]) (st := []) dX7_takes_13 kX7_48 sX7_in MX7_in rfl rfl (Nat.le_of_ble_eq_true rfl) (FC.use (c_in d _ _ _) rfl (L2 := [(38, .inr (7, [.ref 39, .ref 40, .int bu, .int (nI q), .ref 41, .int (nI pn), .ref 42, .int fl, .int fa, .int fw, .int fr, .int rs, .int ac, .ref 43, .ref 44, .ref 45, .ref 46, .ref 47, .ref 48, .ref 49])), (46, .inl (false, 61, wo)), (47, .inl (true, 64, cm))]) rfl) (Nat.le_of_ble_eq_true rfl) (fun _ _ hq9 => E_fgo ?_ hq9)
  show E _ _ 16 [.ref 38, .int (nI n), .int 0, .null, .null] [.int (b2i (inI 0 0 1))] (hov hp [(38, .inr (7, [.ref 39, .ref 40, .int bu, .int (nI q), .ref 41, .int (nI pn), .ref 42, .int fl, .int fa, .int fw, .int fr, .int rs, .int ac, .ref 43, .ref 44, .ref 45, .ref 46, .ref 47, .ref 48, .ref 49])), (46, .inl (false, 61, wo)), (47, .inl (true, 64, cm))]) _
  refine E_if_ne (tgt := 22) dX7_takes_16 (by decide) (fun _ => ?_) (fun c => (b2i_x1 (by decide) c).elim)
  refine E_aload_n dX7_takes_22 rfl ?_
  refine E_iload_n dX7_takes_23 rfl ?_
  refine E_callV (As := [.int (nI n)]) (l' := [.ref 38, .int (nI n), .null, .null, .null]) (st := []) dX7_takes_24 kX7_141 iX7_layWorth vX7_layWorth (by decide) rfl rfl MX7_layWorth rfl rfl (Nat.le_of_ble_eq_true rfl) (FC.use (m_lay d bu fl fa fw fr rs ac q pn wo cm hwo hcm n hn) rfl (L2 := [(38, .inr (7, [.ref 39, .ref 40, .int bu, .int (nI q), .ref 41, .int (nI pn), .ref 42, .int fl, .int fa, .int fw, .int fr, .int rs, .int ac, .ref 43, .ref 44, .ref 45, .ref 46, .ref 47, .ref 48, .ref 49])), (46, .inl (false, 61, (rvK wo 1 (n + 1)))), (47, .inl (true, 64, (cmF cm n)))]) rfl) (Nat.le_of_ble_eq_true rfl) (fun _ _ hq9 => E_fgo ?_ hq9)
  show E _ _ 27 [.ref 38, .int (nI n), .int 0, .null, .null] [] (hov hp [(38, .inr (7, [.ref 39, .ref 40, .int bu, .int (nI q), .ref 41, .int (nI pn), .ref 42, .int fl, .int fa, .int fw, .int fr, .int rs, .int ac, .ref 43, .ref 44, .ref 45, .ref 46, .ref 47, .ref 48, .ref 49])), (46, .inl (false, 61, (rvK wo 1 (n + 1)))), (47, .inl (true, 64, (cmF cm n)))]) _
  refine E_iload_n dX7_takes_27 rfl ?_
  refine E_if_ne (tgt := 46) dX7_takes_28 (by decide) (fun c => by first | exact absurd c (by decide) | exact absurd (by decide) c) (fun _ => ?_)
  refine E_aload_n dX7_takes_31 rfl ?_
  refine E_get dX7_takes_32 fX7_35 (by decide) rfl rfl ?_
  refine E_iload_n dX7_takes_35 rfl ?_
  refine E_ialdN (j := n) dX7_takes_36 (by decide) rfl (by omega) (by decide) ?_
  refine E_eqi (y := nI (K n)) (rvK_g hwo (by omega)) ?_
  refine E_if_le (tgt := 44) dX7_takes_37 (by decide) (fun _ => ?_) (fun c => absurd (by rw [(wt_K n (by omega)).mp hw]; decide) c)
  refine E_iconst (v := 0) dX7_takes_44 (by decide) ?_
  exact E_iretf dX7_takes_45 rfl rfl rfl rfl

set_option maxHeartbeats 4000000 in
set_option maxRecDepth 20000 in
theorem m_tak_0n (d : Nat) (bu fl fa fw fr rs ac : Int32) (q pn : Nat) (wo cm : Nat → Int32) (hwo : ∀ i, i < 1 → wo i = nI (K i)) (hcm : ∀ j, 64 ≤ j → cm j = 0) (n : Nat) (hn : n ≤ 60) (h1 : inI (nI n) 0 60 = true) (hw : ¬ wtR n = -6) : FC YX7_takes (d + 1) [.ref 38, .int (nI n), .int 0, .null, .null] [(38, .inr (7, [.ref 39, .ref 40, .int bu, .int (nI q), .ref 41, .int (nI pn), .ref 42, .int fl, .int fa, .int fw, .int fr, .int rs, .int ac, .ref 43, .ref 44, .ref 45, .ref 46, .ref 47, .ref 48, .ref 49])), (46, .inl (false, 61, wo)), (47, .inl (true, 64, cm))] (some (.int 1)) [(38, .inr (7, [.ref 39, .ref 40, .int bu, .int (nI q), .ref 41, .int (nI pn), .ref 42, .int fl, .int fa, .int fw, .int fr, .int rs, .int ac, .ref 43, .ref 44, .ref 45, .ref 46, .ref 47, .ref 48, .ref 49])), (46, .inl (false, 61, (rvK wo 1 (n + 1)))), (47, .inl (true, 64, (cmF cm n)))] := by
  intro hp
  refine E_iload_n dX7_takes_0 rfl ?_
  refine E_iconst (v := 0) dX7_takes_1 (by decide) ?_
  refine E_bipush (v := 60) dX7_takes_2 (by decide) ?_
  refine E_callS (As := [.int (nI n), .int 0, .int 60]) (l' := [.int (nI n), .int 0, .int 60]) (st := []) dX7_takes_4 kX7_48 sX7_in MX7_in rfl rfl (Nat.le_of_ble_eq_true rfl) (FC.use (c_in d _ _ _) rfl (L2 := [(38, .inr (7, [.ref 39, .ref 40, .int bu, .int (nI q), .ref 41, .int (nI pn), .ref 42, .int fl, .int fa, .int fw, .int fr, .int rs, .int ac, .ref 43, .ref 44, .ref 45, .ref 46, .ref 47, .ref 48, .ref 49])), (46, .inl (false, 61, wo)), (47, .inl (true, 64, cm))]) rfl) (Nat.le_of_ble_eq_true rfl) (fun _ _ hq9 => E_fgo ?_ hq9)
  show E _ _ 7 [.ref 38, .int (nI n), .int 0, .null, .null] [.int (b2i (inI (nI n) 0 60))] (hov hp [(38, .inr (7, [.ref 39, .ref 40, .int bu, .int (nI q), .ref 41, .int (nI pn), .ref 42, .int fl, .int fa, .int fw, .int fr, .int rs, .int ac, .ref 43, .ref 44, .ref 45, .ref 46, .ref 47, .ref 48, .ref 49])), (46, .inl (false, 61, wo)), (47, .inl (true, 64, cm))]) _
  refine E_if_eq (tgt := 19) dX7_takes_7 (by decide) (fun c => (b2i_x1 h1 c).elim) (fun _ => ?_)
  refine E_iload_n dX7_takes_10 rfl ?_
  refine E_iconst (v := 0) dX7_takes_11 (by decide) ?_
  refine E_iconst (v := 1) dX7_takes_12 (by decide) ?_
  refine E_callS (As := [.int 0, .int 0, .int 1]) (l' := [.int 0, .int 0, .int 1]) (st := []) dX7_takes_13 kX7_48 sX7_in MX7_in rfl rfl (Nat.le_of_ble_eq_true rfl) (FC.use (c_in d _ _ _) rfl (L2 := [(38, .inr (7, [.ref 39, .ref 40, .int bu, .int (nI q), .ref 41, .int (nI pn), .ref 42, .int fl, .int fa, .int fw, .int fr, .int rs, .int ac, .ref 43, .ref 44, .ref 45, .ref 46, .ref 47, .ref 48, .ref 49])), (46, .inl (false, 61, wo)), (47, .inl (true, 64, cm))]) rfl) (Nat.le_of_ble_eq_true rfl) (fun _ _ hq9 => E_fgo ?_ hq9)
  show E _ _ 16 [.ref 38, .int (nI n), .int 0, .null, .null] [.int (b2i (inI 0 0 1))] (hov hp [(38, .inr (7, [.ref 39, .ref 40, .int bu, .int (nI q), .ref 41, .int (nI pn), .ref 42, .int fl, .int fa, .int fw, .int fr, .int rs, .int ac, .ref 43, .ref 44, .ref 45, .ref 46, .ref 47, .ref 48, .ref 49])), (46, .inl (false, 61, wo)), (47, .inl (true, 64, cm))]) _
  refine E_if_ne (tgt := 22) dX7_takes_16 (by decide) (fun _ => ?_) (fun c => (b2i_x1 (by decide) c).elim)
  refine E_aload_n dX7_takes_22 rfl ?_
  refine E_iload_n dX7_takes_23 rfl ?_
  refine E_callV (As := [.int (nI n)]) (l' := [.ref 38, .int (nI n), .null, .null, .null]) (st := []) dX7_takes_24 kX7_141 iX7_layWorth vX7_layWorth (by decide) rfl rfl MX7_layWorth rfl rfl (Nat.le_of_ble_eq_true rfl) (FC.use (m_lay d bu fl fa fw fr rs ac q pn wo cm hwo hcm n hn) rfl (L2 := [(38, .inr (7, [.ref 39, .ref 40, .int bu, .int (nI q), .ref 41, .int (nI pn), .ref 42, .int fl, .int fa, .int fw, .int fr, .int rs, .int ac, .ref 43, .ref 44, .ref 45, .ref 46, .ref 47, .ref 48, .ref 49])), (46, .inl (false, 61, (rvK wo 1 (n + 1)))), (47, .inl (true, 64, (cmF cm n)))]) rfl) (Nat.le_of_ble_eq_true rfl) (fun _ _ hq9 => E_fgo ?_ hq9)
  show E _ _ 27 [.ref 38, .int (nI n), .int 0, .null, .null] [] (hov hp [(38, .inr (7, [.ref 39, .ref 40, .int bu, .int (nI q), .ref 41, .int (nI pn), .ref 42, .int fl, .int fa, .int fw, .int fr, .int rs, .int ac, .ref 43, .ref 44, .ref 45, .ref 46, .ref 47, .ref 48, .ref 49])), (46, .inl (false, 61, (rvK wo 1 (n + 1)))), (47, .inl (true, 64, (cmF cm n)))]) _
  refine E_iload_n dX7_takes_27 rfl ?_
  refine E_if_ne (tgt := 46) dX7_takes_28 (by decide) (fun c => by first | exact absurd c (by decide) | exact absurd (by decide) c) (fun _ => ?_)
  refine E_aload_n dX7_takes_31 rfl ?_
  refine E_get dX7_takes_32 fX7_35 (by decide) rfl rfl ?_
  refine E_iload_n dX7_takes_35 rfl ?_
  refine E_ialdN (j := n) dX7_takes_36 (by decide) rfl (by omega) (by decide) ?_
  refine E_eqi (y := nI (K n)) (rvK_g hwo (by omega)) ?_
  refine E_if_le (tgt := 44) dX7_takes_37 (by decide) (fun c => absurd c (fun e => nI_ge (a := 0) (Nat.pos_of_ne_zero (fun z => hw ((wt_K n (by omega)).mpr z))) (by have := K_lt n (by omega); omega) e)) (fun _ => ?_)
  refine E_iconst (v := 1) dX7_takes_40 (by decide) ?_
  refine E_goto (tgt := 45) dX7_takes_41 (by decide) ?_
  exact E_iretf dX7_takes_45 rfl rfl rfl rfl

set_option maxHeartbeats 4000000 in
set_option maxRecDepth 20000 in
theorem m_tak_1 (d : Nat) (bu fl fa fw fr rs ac : Int32) (q pn : Nat) (wo cm : Nat → Int32) (hwo : ∀ i, i < 1 → wo i = nI (K i)) (hcm : ∀ j, 64 ≤ j → cm j = 0) (n : Nat) (hn : n ≤ 60) (h1 : inI (nI n) 0 60 = true) : FC YX7_takes (d + 1) [.ref 38, .int (nI n), .int 1, .null, .null] [(38, .inr (7, [.ref 39, .ref 40, .int bu, .int (nI q), .ref 41, .int (nI pn), .ref 42, .int fl, .int fa, .int fw, .int fr, .int rs, .int ac, .ref 43, .ref 44, .ref 45, .ref 46, .ref 47, .ref 48, .ref 49])), (46, .inl (false, 61, wo)), (47, .inl (true, 64, cm))] (some (.int (wtR n))) [(38, .inr (7, [.ref 39, .ref 40, .int bu, .int (nI q), .ref 41, .int (nI pn), .ref 42, .int fl, .int fa, .int fw, .int fr, .int rs, .int ac, .ref 43, .ref 44, .ref 45, .ref 46, .ref 47, .ref 48, .ref 49])), (46, .inl (false, 61, (rvK wo 1 (n + 1)))), (47, .inl (true, 64, (cmF cm n)))] := by
  intro hp
  refine E_iload_n dX7_takes_0 rfl ?_
  refine E_iconst (v := 0) dX7_takes_1 (by decide) ?_
  refine E_bipush (v := 60) dX7_takes_2 (by decide) ?_
  refine E_callS (As := [.int (nI n), .int 0, .int 60]) (l' := [.int (nI n), .int 0, .int 60]) (st := []) dX7_takes_4 kX7_48 sX7_in MX7_in rfl rfl (Nat.le_of_ble_eq_true rfl) (FC.use (c_in d _ _ _) rfl (L2 := [(38, .inr (7, [.ref 39, .ref 40, .int bu, .int (nI q), .ref 41, .int (nI pn), .ref 42, .int fl, .int fa, .int fw, .int fr, .int rs, .int ac, .ref 43, .ref 44, .ref 45, .ref 46, .ref 47, .ref 48, .ref 49])), (46, .inl (false, 61, wo)), (47, .inl (true, 64, cm))]) rfl) (Nat.le_of_ble_eq_true rfl) (fun _ _ hq9 => E_fgo ?_ hq9)
  show E _ _ 7 [.ref 38, .int (nI n), .int 1, .null, .null] [.int (b2i (inI (nI n) 0 60))] (hov hp [(38, .inr (7, [.ref 39, .ref 40, .int bu, .int (nI q), .ref 41, .int (nI pn), .ref 42, .int fl, .int fa, .int fw, .int fr, .int rs, .int ac, .ref 43, .ref 44, .ref 45, .ref 46, .ref 47, .ref 48, .ref 49])), (46, .inl (false, 61, wo)), (47, .inl (true, 64, cm))]) _
  refine E_if_eq (tgt := 19) dX7_takes_7 (by decide) (fun c => (b2i_x1 h1 c).elim) (fun _ => ?_)
  refine E_iload_n dX7_takes_10 rfl ?_
  refine E_iconst (v := 0) dX7_takes_11 (by decide) ?_
  refine E_iconst (v := 1) dX7_takes_12 (by decide) ?_
  refine E_callS (As := [.int 1, .int 0, .int 1]) (l' := [.int 1, .int 0, .int 1]) (st := []) dX7_takes_13 kX7_48 sX7_in MX7_in rfl rfl (Nat.le_of_ble_eq_true rfl) (FC.use (c_in d _ _ _) rfl (L2 := [(38, .inr (7, [.ref 39, .ref 40, .int bu, .int (nI q), .ref 41, .int (nI pn), .ref 42, .int fl, .int fa, .int fw, .int fr, .int rs, .int ac, .ref 43, .ref 44, .ref 45, .ref 46, .ref 47, .ref 48, .ref 49])), (46, .inl (false, 61, wo)), (47, .inl (true, 64, cm))]) rfl) (Nat.le_of_ble_eq_true rfl) (fun _ _ hq9 => E_fgo ?_ hq9)
  show E _ _ 16 [.ref 38, .int (nI n), .int 1, .null, .null] [.int (b2i (inI 1 0 1))] (hov hp [(38, .inr (7, [.ref 39, .ref 40, .int bu, .int (nI q), .ref 41, .int (nI pn), .ref 42, .int fl, .int fa, .int fw, .int fr, .int rs, .int ac, .ref 43, .ref 44, .ref 45, .ref 46, .ref 47, .ref 48, .ref 49])), (46, .inl (false, 61, wo)), (47, .inl (true, 64, cm))]) _
  refine E_if_ne (tgt := 22) dX7_takes_16 (by decide) (fun _ => ?_) (fun c => (b2i_x1 (by decide) c).elim)
  refine E_aload_n dX7_takes_22 rfl ?_
  refine E_iload_n dX7_takes_23 rfl ?_
  refine E_callV (As := [.int (nI n)]) (l' := [.ref 38, .int (nI n), .null, .null, .null]) (st := []) dX7_takes_24 kX7_141 iX7_layWorth vX7_layWorth (by decide) rfl rfl MX7_layWorth rfl rfl (Nat.le_of_ble_eq_true rfl) (FC.use (m_lay d bu fl fa fw fr rs ac q pn wo cm hwo hcm n hn) rfl (L2 := [(38, .inr (7, [.ref 39, .ref 40, .int bu, .int (nI q), .ref 41, .int (nI pn), .ref 42, .int fl, .int fa, .int fw, .int fr, .int rs, .int ac, .ref 43, .ref 44, .ref 45, .ref 46, .ref 47, .ref 48, .ref 49])), (46, .inl (false, 61, (rvK wo 1 (n + 1)))), (47, .inl (true, 64, (cmF cm n)))]) rfl) (Nat.le_of_ble_eq_true rfl) (fun _ _ hq9 => E_fgo ?_ hq9)
  show E _ _ 27 [.ref 38, .int (nI n), .int 1, .null, .null] [] (hov hp [(38, .inr (7, [.ref 39, .ref 40, .int bu, .int (nI q), .ref 41, .int (nI pn), .ref 42, .int fl, .int fa, .int fw, .int fr, .int rs, .int ac, .ref 43, .ref 44, .ref 45, .ref 46, .ref 47, .ref 48, .ref 49])), (46, .inl (false, 61, (rvK wo 1 (n + 1)))), (47, .inl (true, 64, (cmF cm n)))]) _
  refine E_iload_n dX7_takes_27 rfl ?_
  refine E_if_ne (tgt := 46) dX7_takes_28 (by decide) (fun _ => ?_) (fun c => by first | exact absurd c (by decide) | exact absurd (by decide) c)
  refine E_iconst (v := 1) dX7_takes_46 (by decide) ?_
  refine E_istore_n (l2 := [.ref 38, .int (nI n), .int 1, .int 1, .null]) dX7_takes_47 rfl (by decide) rfl ?_
  refine E_iload_n dX7_takes_48 rfl ?_
  refine E_iconst (v := 3) dX7_takes_49 (by decide) ?_
  refine E_icmp_ge (tgt := 105) dX7_takes_50 (by decide) (fun c => by first | exact absurd c (by decide) | exact absurd (by decide) c) (fun _ => ?_)
  refine E_iconst (v := 0) dX7_takes_53 (by decide) ?_
  refine E_istore (l2 := [.ref 38, .int (nI n), .int 1, .int 1, .int 0]) dX7_takes_54 (by decide) rfl ?_
  have L1 : ∀ k i, i + k = n → wtF n 1 (wtF n 2 (-6) (n - 1) 0) k i = wtR n → E YX7_takes (d + 1) 56 [.ref 38, .int (nI n), .int 1, .int 1, .int (nI i)] [] (hov hp [(38, .inr (7, [.ref 39, .ref 40, .int bu, .int (nI q), .ref 41, .int (nI pn), .ref 42, .int fl, .int fa, .int fw, .int fr, .int rs, .int ac, .ref 43, .ref 44, .ref 45, .ref 46, .ref 47, .ref 48, .ref 49])), (46, .inl (false, 61, (rvK wo 1 (n + 1)))), (47, .inl (true, 64, (cmF cm n)))]) (fun v h' => v = some (.int (wtR n)) ∧ h' = hov hp [(38, .inr (7, [.ref 39, .ref 40, .int bu, .int (nI q), .ref 41, .int (nI pn), .ref 42, .int fl, .int fa, .int fw, .int fr, .int rs, .int ac, .ref 43, .ref 44, .ref 45, .ref 46, .ref 47, .ref 48, .ref 49])), (46, .inl (false, 61, (rvK wo 1 (n + 1)))), (47, .inl (true, 64, (cmF cm n)))]) := by
    intro k
    induction k with
    | zero =>
      intro i hik he
      refine E_iload dX7_takes_56 rfl ?_
      refine E_iload_n dX7_takes_58 rfl ?_
      refine E_iadd dX7_takes_59 ?_
      refine E_eqi (y := nI (i + 1)) (nI_add _ 1) ?_
      refine E_iload_n dX7_takes_60 rfl ?_
      refine E_icmp_gt (tgt := 99) dX7_takes_61 (by decide) (fun _ => ?_) (fun c => absurd (nI_lt (by omega) (by omega)) c)
      refine E_iinc (y := 2) (l2 := [.ref 38, .int (nI n), .int 1, .int 2, .int (nI i)]) dX7_takes_99 rfl (by decide) (by decide) rfl ?_
      refine E_goto (tgt := 48) dX7_takes_102 (by decide) ?_
      refine E_iload_n dX7_takes_48 rfl ?_
      refine E_iconst (v := 3) dX7_takes_49 (by decide) ?_
      refine E_icmp_ge (tgt := 105) dX7_takes_50 (by decide) (fun c => by first | exact absurd c (by decide) | exact absurd (by decide) c) (fun _ => ?_)
      refine E_iconst (v := 0) dX7_takes_53 (by decide) ?_
      refine E_istore (l2 := [.ref 38, .int (nI n), .int 1, .int 2, .int 0]) dX7_takes_54 (by decide) rfl ?_
      have L2 : ∀ k i, i + k = n - 1 → wtF n 2 (-6) k i = wtR n → E YX7_takes (d + 1) 56 [.ref 38, .int (nI n), .int 1, .int 2, .int (nI i)] [] (hov hp [(38, .inr (7, [.ref 39, .ref 40, .int bu, .int (nI q), .ref 41, .int (nI pn), .ref 42, .int fl, .int fa, .int fw, .int fr, .int rs, .int ac, .ref 43, .ref 44, .ref 45, .ref 46, .ref 47, .ref 48, .ref 49])), (46, .inl (false, 61, (rvK wo 1 (n + 1)))), (47, .inl (true, 64, (cmF cm n)))]) (fun v h' => v = some (.int (wtR n)) ∧ h' = hov hp [(38, .inr (7, [.ref 39, .ref 40, .int bu, .int (nI q), .ref 41, .int (nI pn), .ref 42, .int fl, .int fa, .int fw, .int fr, .int rs, .int ac, .ref 43, .ref 44, .ref 45, .ref 46, .ref 47, .ref 48, .ref 49])), (46, .inl (false, 61, (rvK wo 1 (n + 1)))), (47, .inl (true, 64, (cmF cm n)))]) := by
        intro k
        induction k with
        | zero =>
          intro i hik he
          refine E_iload dX7_takes_56 rfl ?_
          refine E_iload_n dX7_takes_58 rfl ?_
          refine E_iadd dX7_takes_59 ?_
          refine E_eqi (y := nI (i + 2)) (nI_add _ 2) ?_
          refine E_iload_n dX7_takes_60 rfl ?_
          refine E_icmp_gt (tgt := 99) dX7_takes_61 (by decide) (fun _ => ?_) (fun c => absurd (nI_lt (by omega) (by omega)) c)
          refine E_iinc (y := 3) (l2 := [.ref 38, .int (nI n), .int 1, .int 3, .int (nI i)]) dX7_takes_99 rfl (by decide) (by decide) rfl ?_
          refine E_goto (tgt := 48) dX7_takes_102 (by decide) ?_
          refine E_iload_n dX7_takes_48 rfl ?_
          refine E_iconst (v := 3) dX7_takes_49 (by decide) ?_
          refine E_icmp_ge (tgt := 105) dX7_takes_50 (by decide) (fun _ => ?_) (fun c => by first | exact absurd c (by decide) | exact absurd (by decide) c)
          refine E_bipush (v := (-6)) dX7_takes_105 (by decide) ?_
          exact E_iretf dX7_takes_107 rfl rfl he rfl
        | succ k ih =>
          intro i hik he
          refine E_iload dX7_takes_56 rfl ?_
          refine E_iload_n dX7_takes_58 rfl ?_
          refine E_iadd dX7_takes_59 ?_
          refine E_eqi (y := nI (i + 2)) (nI_add _ 2) ?_
          refine E_iload_n dX7_takes_60 rfl ?_
          refine E_icmp_gt (tgt := 99) dX7_takes_61 (by decide) (fun c => absurd c (nI_nlt (by omega) (by omega))) (fun _ => ?_)
          refine E_aload_n dX7_takes_64 rfl ?_
          refine E_get dX7_takes_65 fX7_35 (by decide) rfl rfl ?_
          refine E_iload dX7_takes_68 rfl ?_
          refine E_ialdN (j := i) dX7_takes_70 (by decide) rfl (by omega) (by decide) ?_
          refine E_eqi (y := nI (K i)) (rvK_g hwo (by omega)) ?_
          refine E_aload_n dX7_takes_71 rfl ?_
          refine E_get dX7_takes_72 fX7_35 (by decide) rfl rfl ?_
          refine E_iload_n dX7_takes_75 rfl ?_
          refine E_iload_n dX7_takes_76 rfl ?_
          refine E_isub dX7_takes_77 ?_
          refine E_eqi (y := nI (n - 2)) (pk_sub (a := n) (b := 2) (by omega)) ?_
          refine E_iload dX7_takes_78 rfl ?_
          refine E_isub dX7_takes_80 ?_
          refine E_eqi (y := nI (n - 2 - i)) (pk_sub (by omega)) ?_
          refine E_ialdN (j := n - 2 - i) dX7_takes_81 (by decide) rfl (by omega) (by decide) ?_
          refine E_eqi (y := nI (K (n - 2 - i))) (rvK_g hwo (by omega)) ?_
          refine E_icmp_ne (tgt := 93) dX7_takes_82 (by decide) (fun c82 => ?_) (fun c82 => ?_)
          · have c82 : ¬ K i = K (n - 2 - i) := fun h => c82 (by rw [h])
            refine E_iinc (y := nI (i + 1)) (l2 := [.ref 38, .int (nI n), .int 1, .int 2, .int (nI (i + 1))]) dX7_takes_93 rfl (nI_1 _) (by decide) rfl ?_
            refine E_goto (tgt := 56) dX7_takes_96 (by decide) ?_
            exact ih (i + 1) (by omega) (by rw [← he, wtF, if_neg c82])
          · have c82 : K i = K (n - 2 - i) := nI_inj (by have := K_lt i (by omega); omega) (by have := K_lt (n - 2 - i) (by omega); omega) c82
            refine E_bipush (v := 100) dX7_takes_85 (by decide) ?_
            refine E_iload_n dX7_takes_87 rfl ?_
            refine E_imul dX7_takes_88 ?_
            refine E_eqi (y := 200) (by decide) ?_
            refine E_eqi (y := nI (100 * 2)) (pk_mul 100 2) ?_
            refine E_iload dX7_takes_89 rfl ?_
            refine E_iadd dX7_takes_91 ?_
            refine E_eqi (y := nI (100 * 2 + i)) (nI_add _ _) ?_
            exact E_iretf dX7_takes_92 rfl rfl (by rw [← he, wtF, if_pos c82]) rfl
      exact L2 (n - 1) 0 (by omega) (by exact he)
    | succ k ih =>
      intro i hik he
      refine E_iload dX7_takes_56 rfl ?_
      refine E_iload_n dX7_takes_58 rfl ?_
      refine E_iadd dX7_takes_59 ?_
      refine E_eqi (y := nI (i + 1)) (nI_add _ 1) ?_
      refine E_iload_n dX7_takes_60 rfl ?_
      refine E_icmp_gt (tgt := 99) dX7_takes_61 (by decide) (fun c => absurd c (nI_nlt (by omega) (by omega))) (fun _ => ?_)
      refine E_aload_n dX7_takes_64 rfl ?_
      refine E_get dX7_takes_65 fX7_35 (by decide) rfl rfl ?_
      refine E_iload dX7_takes_68 rfl ?_
      refine E_ialdN (j := i) dX7_takes_70 (by decide) rfl (by omega) (by decide) ?_
      refine E_eqi (y := nI (K i)) (rvK_g hwo (by omega)) ?_
      refine E_aload_n dX7_takes_71 rfl ?_
      refine E_get dX7_takes_72 fX7_35 (by decide) rfl rfl ?_
      refine E_iload_n dX7_takes_75 rfl ?_
      refine E_iload_n dX7_takes_76 rfl ?_
      refine E_isub dX7_takes_77 ?_
      refine E_eqi (y := nI (n - 1)) (pk_sub (a := n) (b := 1) (by omega)) ?_
      refine E_iload dX7_takes_78 rfl ?_
      refine E_isub dX7_takes_80 ?_
      refine E_eqi (y := nI (n - 1 - i)) (pk_sub (by omega)) ?_
      refine E_ialdN (j := n - 1 - i) dX7_takes_81 (by decide) rfl (by omega) (by decide) ?_
      refine E_eqi (y := nI (K (n - 1 - i))) (rvK_g hwo (by omega)) ?_
      refine E_icmp_ne (tgt := 93) dX7_takes_82 (by decide) (fun c82 => ?_) (fun c82 => ?_)
      · have c82 : ¬ K i = K (n - 1 - i) := fun h => c82 (by rw [h])
        refine E_iinc (y := nI (i + 1)) (l2 := [.ref 38, .int (nI n), .int 1, .int 1, .int (nI (i + 1))]) dX7_takes_93 rfl (nI_1 _) (by decide) rfl ?_
        refine E_goto (tgt := 56) dX7_takes_96 (by decide) ?_
        exact ih (i + 1) (by omega) (by rw [← he, wtF, if_neg c82])
      · have c82 : K i = K (n - 1 - i) := nI_inj (by have := K_lt i (by omega); omega) (by have := K_lt (n - 1 - i) (by omega); omega) c82
        refine E_bipush (v := 100) dX7_takes_85 (by decide) ?_
        refine E_iload_n dX7_takes_87 rfl ?_
        refine E_imul dX7_takes_88 ?_
        refine E_eqi (y := 100) (by decide) ?_
        refine E_eqi (y := nI (100 * 1)) (pk_mul 100 1) ?_
        refine E_iload dX7_takes_89 rfl ?_
        refine E_iadd dX7_takes_91 ?_
        refine E_eqi (y := nI (100 * 1 + i)) (nI_add _ _) ?_
        exact E_iretf dX7_takes_92 rfl rfl (by rw [← he, wtF, if_pos c82]) rfl
  exact L1 (n) 0 (by omega) (by rfl)
