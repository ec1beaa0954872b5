set_option maxHeartbeats 4000000 in
set_option maxRecDepth 20000 in
theorem m_can (d : Nat) (bu fl fa fw fr rs ac : Int32) (q pn : Nat) (tk du : Nat → Int32) (x : Int32) (n : Nat) (hn : n ≤ 8) (nv dv : Nat → Nat) (htk : ∀ j, j < n → tk j = nI (nv j) ∧ nv j ≤ 9) (hdu : ∀ j, j < n → du j = nI (dv j) ∧ dv j ≤ 99) : FC YX7_canBeDrawn (d + 1) [.ref 38, .int x, .int (nI n), .null, .null, .null] [(38, .inr (7, [.ref 39, .ref 40, .int bu, .int (nI q), .ref 41, .int (nI pn), .ref 42, .int fl, .int fa, .int fw, .int fr, .int rs, .int ac, .ref 43, .ref 44, .ref 45, .ref 46, .ref 47, .ref 48, .ref 49])), (43, .inl (false, 8, tk)), (44, .inl (false, 8, du))] (some (.int (b2i (allB (cbP nv dv n x) n)))) [(38, .inr (7, [.ref 39, .ref 40, .int bu, .int (nI q), .ref 41, .int (nI pn), .ref 42, .int fl, .int fa, .int fw, .int fr, .int rs, .int ac, .ref 43, .ref 44, .ref 45, .ref 46, .ref 47, .ref 48, .ref 49])), (43, .inl (false, 8, tk)), (44, .inl (false, 8, du))] := by
  intro hp
  have L : ∀ i, i ≤ n → (∀ k, k < i → cbP nv dv n x k = true) → ∀ l4 l5 : Value, E YX7_canBeDrawn (d + 1) 2 [.ref 38, .int x, .int (nI n), .int (nI i), l4, l5] [] (hov hp [(38, .inr (7, [.ref 39, .ref 40, .int bu, .int (nI q), .ref 41, .int (nI pn), .ref 42, .int fl, .int fa, .int fw, .int fr, .int rs, .int ac, .ref 43, .ref 44, .ref 45, .ref 46, .ref 47, .ref 48, .ref 49])), (43, .inl (false, 8, tk)), (44, .inl (false, 8, du))]) (fun v h' => v = some (.int (b2i (allB (cbP nv dv n x) n))) ∧ h' = hov hp [(38, .inr (7, [.ref 39, .ref 40, .int bu, .int (nI q), .ref 41, .int (nI pn), .ref 42, .int fl, .int fa, .int fw, .int fr, .int rs, .int ac, .ref 43, .ref 44, .ref 45, .ref 46, .ref 47, .ref 48, .ref 49])), (43, .inl (false, 8, tk)), (44, .inl (false, 8, du))]) := by
    refine down n ?_ ?_
    · intro hall l4 l5
      refine E_iload_n dX7_canBeDrawn_2 rfl ?_
      refine E_iload_n dX7_canBeDrawn_3 rfl ?_
      refine E_icmp_ge (tgt := 93) dX7_canBeDrawn_4 (by decide) (fun _ => ?_) (fun c => absurd (nI_le (Nat.le_refl _) (by omega)) c)
      refine E_iconst (v := 1) dX7_canBeDrawn_93 (by decide) ?_
      exact E_iretf dX7_canBeDrawn_94 rfl (b2i_nar _) (b2i_t (allB_t hall)) rfl
    · intro i hi ih hall l4 l5
      have hs9 := smD_le (dv := dv) (x := x) (c := i) (fun j hj => (htk j hj).2) n (Nat.le_refl _)
      have hd9 := hdu i hi
      have LJ : ∀ j, j ≤ n → E YX7_canBeDrawn (d + 1) 13 [.ref 38, .int x, .int (nI n), .int (nI i), .int (nI (smD nv dv x i j)), .int (nI j)] [] (hov hp [(38, .inr (7, [.ref 39, .ref 40, .int bu, .int (nI q), .ref 41, .int (nI pn), .ref 42, .int fl, .int fa, .int fw, .int fr, .int rs, .int ac, .ref 43, .ref 44, .ref 45, .ref 46, .ref 47, .ref 48, .ref 49])), (43, .inl (false, 8, tk)), (44, .inl (false, 8, du))]) (fun v h' => v = some (.int (b2i (allB (cbP nv dv n x) n))) ∧ h' = hov hp [(38, .inr (7, [.ref 39, .ref 40, .int bu, .int (nI q), .ref 41, .int (nI pn), .ref 42, .int fl, .int fa, .int fw, .int fr, .int rs, .int ac, .ref 43, .ref 44, .ref 45, .ref 46, .ref 47, .ref 48, .ref 49])), (43, .inl (false, 8, tk)), (44, .inl (false, 8, du))]) := by
        refine down n ?_ ?_
        · refine E_iload dX7_canBeDrawn_13 rfl ?_
          refine E_iload_n dX7_canBeDrawn_15 rfl ?_
          refine E_icmp_ge (tgt := 66) dX7_canBeDrawn_16 (by decide) (fun _ => ?_) (fun c => absurd (nI_le (Nat.le_refl _) (by omega)) c)
          refine E_iload_n dX7_canBeDrawn_66 rfl ?_
          refine E_iload_n dX7_canBeDrawn_67 rfl ?_
          refine E_callS (As := [.int x, .int (nI i)]) (l' := [.int x, .int (nI i)]) (st := []) dX7_canBeDrawn_68 kX7_80 sX7_has MX7_has rfl rfl (Nat.le_of_ble_eq_true rfl) (FC.use (c_has d _ _) rfl (L2 := [(38, .inr (7, [.ref 39, .ref 40, .int bu, .int (nI q), .ref 41, .int (nI pn), .ref 42, .int fl, .int fa, .int fw, .int fr, .int rs, .int ac, .ref 43, .ref 44, .ref 45, .ref 46, .ref 47, .ref 48, .ref 49])), (43, .inl (false, 8, tk)), (44, .inl (false, 8, du))]) rfl) (Nat.le_of_ble_eq_true rfl) (fun _ _ hq9 => E_fgo ?_ hq9)
          show E _ _ 71 [.ref 38, .int x, .int (nI n), .int (nI i), .int (nI (smD nv dv x i n)), .int (nI n)] [.int (b2i (hbt x (nI i)))] (hov hp [(38, .inr (7, [.ref 39, .ref 40, .int bu, .int (nI q), .ref 41, .int (nI pn), .ref 42, .int fl, .int fa, .int fw, .int fr, .int rs, .int ac, .ref 43, .ref 44, .ref 45, .ref 46, .ref 47, .ref 48, .ref 49])), (43, .inl (false, 8, tk)), (44, .inl (false, 8, du))]) _
          refine E_if_eq (tgt := 87) dX7_canBeDrawn_71 (by decide) (fun c71 => ?_) (fun c71 => ?_)
          · have c71 := b2i_e0 c71
            refine E_iinc (y := nI (i + 1)) (l2 := [.ref 38, .int x, .int (nI n), .int (nI (i + 1)), .int (nI (smD nv dv x i n)), .int (nI n)]) dX7_canBeDrawn_87 rfl (nI_1 _) (by decide) rfl ?_
            refine E_goto (tgt := 2) dX7_canBeDrawn_90 (by decide) ?_
            exact ih (fun k hk => by rcases Nat.lt_succ_iff_lt_or_eq.mp hk with h | h; exact hall k h; subst h; exact (by rw [cbP, c71]; rfl)) _ _
          · have c71 := b2i_n0 c71
            refine E_iload dX7_canBeDrawn_74 rfl ?_
            refine E_aload_n dX7_canBeDrawn_76 rfl ?_
            refine E_get dX7_canBeDrawn_77 fX7_29 (by decide) rfl rfl ?_
            refine E_iload_n dX7_canBeDrawn_80 rfl ?_
            refine E_ialdN (j := i) dX7_canBeDrawn_81 (by decide) rfl (by omega) (by decide) ?_
            refine E_eqi (y := nI (dv i)) hd9.1 ?_
            refine E_icmp_le (tgt := 87) dX7_canBeDrawn_82 (by decide) (fun c82 => ?_) (fun c82 => ?_)
            · have cb82 : smD nv dv x i n ≤ dv i := Nat.le_of_not_lt (fun h => nI_ge h (by omega) c82)
              refine E_iinc (y := nI (i + 1)) (l2 := [.ref 38, .int x, .int (nI n), .int (nI (i + 1)), .int (nI (smD nv dv x i n)), .int (nI n)]) dX7_canBeDrawn_87 rfl (nI_1 _) (by decide) rfl ?_
              refine E_goto (tgt := 2) dX7_canBeDrawn_90 (by decide) ?_
              exact ih (fun k hk => by rcases Nat.lt_succ_iff_lt_or_eq.mp hk with h | h; exact hall k h; subst h; exact (by rw [cbP, c71, decide_eq_true cb82]; rfl)) _ _
            · have cb82 : ¬ smD nv dv x i n ≤ dv i := fun h => c82 (nI_le h (by omega))
              refine E_iconst (v := 0) dX7_canBeDrawn_85 (by decide) ?_
              exact E_iretf dX7_canBeDrawn_86 rfl (b2i_nar _) (b2i_f (allB_f hi (by rw [cbP, c71, decide_eq_false cb82]; rfl))) rfl
        · intro j hj ihj
          have hdj := hdu j hj
          refine E_iload dX7_canBeDrawn_13 rfl ?_
          refine E_iload_n dX7_canBeDrawn_15 rfl ?_
          refine E_icmp_ge (tgt := 66) dX7_canBeDrawn_16 (by decide) (fun c => absurd c (nI_ge hj (by omega))) (fun _ => ?_)
          refine E_iload dX7_canBeDrawn_19 rfl ?_
          refine E_iload_n dX7_canBeDrawn_21 rfl ?_
          refine E_iload dX7_canBeDrawn_22 rfl ?_
          refine E_callS (As := [.int x, .int (nI j)]) (l' := [.int x, .int (nI j)]) (st := [.int (nI (smD nv dv x i j))]) dX7_canBeDrawn_24 kX7_80 sX7_has MX7_has rfl rfl (Nat.le_of_ble_eq_true rfl) (FC.use (c_has d _ _) rfl (L2 := [(38, .inr (7, [.ref 39, .ref 40, .int bu, .int (nI q), .ref 41, .int (nI pn), .ref 42, .int fl, .int fa, .int fw, .int fr, .int rs, .int ac, .ref 43, .ref 44, .ref 45, .ref 46, .ref 47, .ref 48, .ref 49])), (43, .inl (false, 8, tk)), (44, .inl (false, 8, du))]) rfl) (Nat.le_of_ble_eq_true rfl) (fun _ _ hq9 => E_fgo ?_ hq9)
          show E _ _ 27 [.ref 38, .int x, .int (nI n), .int (nI i), .int (nI (smD nv dv x i j)), .int (nI j)] [.int (b2i (hbt x (nI j))), .int (nI (smD nv dv x i j))] (hov hp [(38, .inr (7, [.ref 39, .ref 40, .int bu, .int (nI q), .ref 41, .int (nI pn), .ref 42, .int fl, .int fa, .int fw, .int fr, .int rs, .int ac, .ref 43, .ref 44, .ref 45, .ref 46, .ref 47, .ref 48, .ref 49])), (43, .inl (false, 8, tk)), (44, .inl (false, 8, du))]) _
          refine E_if_eq (tgt := 56) dX7_canBeDrawn_27 (by decide) (fun c27 => ?_) (fun c27 => ?_)
          · have c27 := b2i_e0 c27
            refine E_iconst (v := 0) dX7_canBeDrawn_56 (by decide) ?_
            refine E_iadd dX7_canBeDrawn_57 ?_
            refine E_eqi (y := nI (smD nv dv x i (j + 1))) (smD_f (by rw [c27]; rfl)) ?_
            refine E_istore (l2 := [.ref 38, .int x, .int (nI n), .int (nI i), .int (nI (smD nv dv x i (j + 1))), .int (nI j)]) dX7_canBeDrawn_58 (by decide) rfl ?_
            refine E_iinc (y := nI (j + 1)) (l2 := [.ref 38, .int x, .int (nI n), .int (nI i), .int (nI (smD nv dv x i (j + 1))), .int (nI (j + 1))]) dX7_canBeDrawn_60 rfl (nI_1 _) (by decide) rfl ?_
            refine E_goto (tgt := 13) dX7_canBeDrawn_63 (by decide) ?_
            exact ihj
          · have c27 := b2i_n0 c27
            refine E_aload_n dX7_canBeDrawn_30 rfl ?_
            refine E_get dX7_canBeDrawn_31 fX7_29 (by decide) rfl rfl ?_
            refine E_iload dX7_canBeDrawn_34 rfl ?_
            refine E_ialdN (j := j) dX7_canBeDrawn_36 (by decide) rfl (by omega) (by decide) ?_
            refine E_eqi (y := nI (dv j)) hdj.1 ?_
            refine E_aload_n dX7_canBeDrawn_37 rfl ?_
            refine E_get dX7_canBeDrawn_38 fX7_29 (by decide) rfl rfl ?_
            refine E_iload_n dX7_canBeDrawn_41 rfl ?_
            refine E_ialdN (j := i) dX7_canBeDrawn_42 (by decide) rfl (by omega) (by decide) ?_
            refine E_eqi (y := nI (dv i)) hd9.1 ?_
            refine E_icmp_gt (tgt := 56) dX7_canBeDrawn_43 (by decide) (fun c43 => ?_) (fun c43 => ?_)
            · have cb43 : ¬ dv j ≤ dv i := fun h => nI_nlt h (by omega) c43
              refine E_iconst (v := 0) dX7_canBeDrawn_56 (by decide) ?_
              refine E_iadd dX7_canBeDrawn_57 ?_
              refine E_eqi (y := nI (smD nv dv x i (j + 1))) (smD_f (by rw [decide_eq_false cb43, Bool.and_false])) ?_
              refine E_istore (l2 := [.ref 38, .int x, .int (nI n), .int (nI i), .int (nI (smD nv dv x i (j + 1))), .int (nI j)]) dX7_canBeDrawn_58 (by decide) rfl ?_
              refine E_iinc (y := nI (j + 1)) (l2 := [.ref 38, .int x, .int (nI n), .int (nI i), .int (nI (smD nv dv x i (j + 1))), .int (nI (j + 1))]) dX7_canBeDrawn_60 rfl (nI_1 _) (by decide) rfl ?_
              refine E_goto (tgt := 13) dX7_canBeDrawn_63 (by decide) ?_
              exact ihj
            · have cb43 : dv j ≤ dv i := Nat.le_of_not_lt (fun h => c43 (nI_lt h (by omega)))
              refine E_aload_n dX7_canBeDrawn_46 rfl ?_
              refine E_get dX7_canBeDrawn_47 fX7_26 (by decide) rfl rfl ?_
              refine E_iload dX7_canBeDrawn_50 rfl ?_
              refine E_ialdN (j := j) dX7_canBeDrawn_52 (by decide) rfl (by omega) (by decide) ?_
              refine E_eqi (y := nI (nv j)) ((htk j hj).1) ?_
              refine E_goto (tgt := 57) dX7_canBeDrawn_53 (by decide) ?_
              refine E_iadd dX7_canBeDrawn_57 ?_
              refine E_eqi (y := nI (smD nv dv x i (j + 1))) (smD_t c27 cb43) ?_
              refine E_istore (l2 := [.ref 38, .int x, .int (nI n), .int (nI i), .int (nI (smD nv dv x i (j + 1))), .int (nI j)]) dX7_canBeDrawn_58 (by decide) rfl ?_
              refine E_iinc (y := nI (j + 1)) (l2 := [.ref 38, .int x, .int (nI n), .int (nI i), .int (nI (smD nv dv x i (j + 1))), .int (nI (j + 1))]) dX7_canBeDrawn_60 rfl (nI_1 _) (by decide) rfl ?_
              refine E_goto (tgt := 13) dX7_canBeDrawn_63 (by decide) ?_
              exact ihj
      refine E_iload_n dX7_canBeDrawn_2 rfl ?_
      refine E_iload_n dX7_canBeDrawn_3 rfl ?_
      refine E_icmp_ge (tgt := 93) dX7_canBeDrawn_4 (by decide) (fun c => absurd c (nI_ge hi (by omega))) (fun _ => ?_)
      refine E_iconst (v := 0) dX7_canBeDrawn_7 (by decide) ?_
      refine E_istore (l2 := [.ref 38, .int x, .int (nI n), .int (nI i), .int 0, l5]) dX7_canBeDrawn_8 (by decide) rfl ?_
      refine E_iconst (v := 0) dX7_canBeDrawn_10 (by decide) ?_
      refine E_istore (l2 := [.ref 38, .int x, .int (nI n), .int (nI i), .int 0, .int 0]) dX7_canBeDrawn_11 (by decide) rfl ?_
      exact LJ 0 (Nat.zero_le _)
  refine E_iconst (v := 0) dX7_canBeDrawn_0 (by decide) ?_
  refine E_istore_n (l2 := [.ref 38, .int x, .int (nI n), .int 0, .null, .null]) dX7_canBeDrawn_1 rfl (by decide) rfl ?_
  exact L 0 (Nat.zero_le _) (fun k hk => absurd hk (Nat.not_lt_zero _)) _ _
