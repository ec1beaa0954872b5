set_option maxHeartbeats 4000000 in
set_option maxRecDepth 20000 in
theorem m_due_dg (d : Nat) (bu fl fa fw fr rs ac : Int32) (q pn : Nat) (tk du : Nat → Int32) (x v : Int32) (z : Int64) (n : Nat) (hn : n ≤ 8) (h0 : inI (nI n) 1 8 = true) (hx : ¬ x ≤ 0) (hz : ¬ z < 0) (h1 : inI v 0 1 = true) (h : (rn n x tk).1 = false ∨ (rd n z du).1 = false) : FR YX7_due (d + 2) [.ref 38, .int x, .long z, .null, .int (nI n), .int v, .null, .null, .null, .null, .null, .null] [(38, .inr (7, [.ref 39, .ref 40, .int bu, .int (nI q), .ref 41, .int (nI pn), .ref 42, .int fl, .int fa, .int fw, .int fr, .int rs, .int ac, .ref 43, .ref 44, .ref 45, .ref 46, .ref 47, .ref 48, .ref 49])), (43, .inl (false, 8, tk)), (44, .inl (false, 8, du))] (fun v M => ∃ f g : Nat → Int32, M = [(38, .inr (7, [.ref 39, .ref 40, .int bu, .int (nI q), .ref 41, .int (nI pn), .ref 42, .int fl, .int fa, .int fw, .int fr, .int rs, .int ac, .ref 43, .ref 44, .ref 45, .ref 46, .ref 47, .ref 48, .ref 49])), (43, .inl (false, 8, f)), (44, .inl (false, 8, g))] ∧ v = some (.int (-2))) := by
  intro hp
  have L : ∀ (m : Nat) (y : Int32) (b : Int64) (f g : Nat → Int32) (l11 : Value), m ≤ 8 → ((rn m y f).1 = false ∨ (rd m b g).1 = false) → E YX7_due (d + 2) 50 [.ref 38, .int x, .long z, .null, .int (nI n), .int v, .int 1, .int y, .long b, .null, .int (nI m - 1), l11] [] (hov hp [(38, .inr (7, [.ref 39, .ref 40, .int bu, .int (nI q), .ref 41, .int (nI pn), .ref 42, .int fl, .int fa, .int fw, .int fr, .int rs, .int ac, .ref 43, .ref 44, .ref 45, .ref 46, .ref 47, .ref 48, .ref 49])), (43, .inl (false, 8, f)), (44, .inl (false, 8, g))]) (fun v h' => ∃ M, h' = hov hp M ∧ (fun v M => ∃ f g : Nat → Int32, M = [(38, .inr (7, [.ref 39, .ref 40, .int bu, .int (nI q), .ref 41, .int (nI pn), .ref 42, .int fl, .int fa, .int fw, .int fr, .int rs, .int ac, .ref 43, .ref 44, .ref 45, .ref 46, .ref 47, .ref 48, .ref 49])), (43, .inl (false, 8, f)), (44, .inl (false, 8, g))] ∧ v = some (.int (-2))) v M) := by
    intro m
    induction m with
    | zero =>
      intro y b f g l11 hm h
      refine E_iload dX7_due_50 rfl ?_
      refine E_if_lt (tgt := 124) dX7_due_52 (by decide) (fun _ => ?_) (fun c => absurd (by decide) c)
      refine E_iload dX7_due_124 rfl ?_
      refine E_if_eq (tgt := 141) dX7_due_126 (by decide) (fun c => by first | exact absurd c (by decide) | exact absurd (by decide) c) (fun _ => ?_)
      refine E_iload dX7_due_129 rfl ?_
      refine E_if_ne (tgt := 141) dX7_due_131 (by decide) (fun c131 => ?_) (fun c131 => ?_)
      · refine E_bipush (v := (-2)) dX7_due_141 (by decide) ?_
        exact E_iret (st := []) dX7_due_143 rfl rfl ⟨_, rfl, _, _, rfl, rfl⟩
      · refine E_lload dX7_due_134 rfl ?_
        refine E_lconst (v := 0) dX7_due_136 (by decide) ?_
        refine E_lcmp dX7_due_137 ?_
        refine E_if_eq (tgt := 144) dX7_due_138 (by decide) (fun c => (h.elim (fun e => (of_decide_eq_false e) c131) (fun e => (of_decide_eq_false e) ((lg_cmp_eq _ _).mp c)) : False).elim) (fun _ => ?_)
        refine E_bipush (v := (-2)) dX7_due_141 (by decide) ?_
        exact E_iret (st := []) dX7_due_143 rfl rfl ⟨_, rfl, _, _, rfl, rfl⟩
    | succ m ih =>
      intro y b f g l11 hm h
      refine E_iload dX7_due_50 rfl ?_
      refine E_eqi (y := nI m) (nI_pred m) ?_
      refine E_if_lt (tgt := 124) dX7_due_52 (by decide) (fun c => absurd c (nI_pos (by omega))) (fun _ => ?_)
      refine E_iload dX7_due_55 rfl ?_
      refine E_if_eq (tgt := 124) dX7_due_57 (by decide) (fun c => by first | exact absurd c (by decide) | exact absurd (by decide) c) (fun _ => ?_)
      refine E_aload_n dX7_due_60 rfl ?_
      refine E_get dX7_due_61 fX7_26 (by decide) rfl rfl ?_
      refine E_iload dX7_due_64 rfl ?_
      refine E_eqi (y := nI m) (nI_pred m) ?_
      refine E_iload dX7_due_66 rfl ?_
      refine E_bipush (v := 10) dX7_due_68 (by decide) ?_
      refine E_irem dX7_due_70 (by decide) ?_
      refine E_iastN (j := m) (f2 := upd f m (rmI y 10)) (L2 := [(38, .inr (7, [.ref 39, .ref 40, .int bu, .int (nI q), .ref 41, .int (nI pn), .ref 42, .int fl, .int fa, .int fw, .int fr, .int rs, .int ac, .ref 43, .ref 44, .ref 45, .ref 46, .ref 47, .ref 48, .ref 49])), (43, .inl (false, 8, (upd f m (rmI y 10)))), (44, .inl (false, 8, g))]) dX7_due_71 (by decide) rfl (by omega) (by decide) rfl rfl ?_
      refine E_aload_n dX7_due_72 rfl ?_
      refine E_get dX7_due_73 fX7_29 (by decide) rfl rfl ?_
      refine E_iload dX7_due_76 rfl ?_
      refine E_eqi (y := nI m) (nI_pred m) ?_
      refine E_lload dX7_due_78 rfl ?_
      refine E_ldc2 dX7_due_80 qX7_126 ?_
      refine E_lrem dX7_due_83 (by decide) ?_
      refine E_l2i dX7_due_84 ?_
      refine E_iastN (j := m) (f2 := upd g m (Int64.toInt32 (rmL b 100))) (L2 := [(38, .inr (7, [.ref 39, .ref 40, .int bu, .int (nI q), .ref 41, .int (nI pn), .ref 42, .int fl, .int fa, .int fw, .int fr, .int rs, .int ac, .ref 43, .ref 44, .ref 45, .ref 46, .ref 47, .ref 48, .ref 49])), (43, .inl (false, 8, (upd f m (rmI y 10)))), (44, .inl (false, 8, (upd g m (Int64.toInt32 (rmL b 100)))))]) dX7_due_85 (by decide) rfl (by omega) (by decide) rfl rfl ?_
      refine E_aload_n dX7_due_86 rfl ?_
      refine E_get dX7_due_87 fX7_26 (by decide) rfl rfl ?_
      refine E_iload dX7_due_90 rfl ?_
      refine E_eqi (y := nI m) (nI_pred m) ?_
      refine E_ialdN (j := m) dX7_due_92 (by decide) rfl (by omega) (by decide) ?_
      refine E_eqi (y := rmI y 10) upd_eq ?_
      refine E_if_le (tgt := 100) dX7_due_93 (by decide) (fun c93 => ?_) (fun c93 => ?_)
      · refine E_iconst (v := 0) dX7_due_100 (by decide) ?_
        refine E_istore (l2 := [.ref 38, .int x, .long z, .null, .int (nI n), .int v, .int 0, .int y, .long b, .null, .int (nI (m + 1) - 1), l11]) dX7_due_101 (by decide) rfl ?_
        refine E_iload dX7_due_103 rfl ?_
        refine E_bipush (v := 10) dX7_due_105 (by decide) ?_
        refine E_idiv dX7_due_107 (by decide) ?_
        refine E_istore (l2 := [.ref 38, .int x, .long z, .null, .int (nI n), .int v, .int 0, .int (y / 10), .long b, .null, .int (nI (m + 1) - 1), l11]) dX7_due_108 (by decide) rfl ?_
        refine E_lload dX7_due_110 rfl ?_
        refine E_ldc2 dX7_due_112 qX7_126 ?_
        refine E_ldiv dX7_due_115 (by decide) ?_
        refine E_lstore (l2 := [.ref 38, .int x, .long z, .null, .int (nI n), .int v, .int 0, .int (y / 10), .long (b / 100), .null, .int (nI (m + 1) - 1), l11]) dX7_due_116 (by decide) rfl ?_
        refine E_iinc (y := nI m - 1) (l2 := [.ref 38, .int x, .long z, .null, .int (nI n), .int v, .int 0, .int (y / 10), .long (b / 100), .null, .int (nI m - 1), l11]) dX7_due_118 rfl (m1_add m) (by decide) rfl ?_
        refine E_goto (tgt := 50) dX7_due_121 (by decide) ?_
        refine E_iload dX7_due_50 rfl ?_
        refine E_if_lt (tgt := 124) dX7_due_52 (by decide) (fun c52 => ?_) (fun c52 => ?_)
        · refine E_iload dX7_due_124 rfl ?_
          refine E_if_eq (tgt := 141) dX7_due_126 (by decide) (fun _ => ?_) (fun c => by first | exact absurd c (by decide) | exact absurd (by decide) c)
          refine E_bipush (v := (-2)) dX7_due_141 (by decide) ?_
          exact E_iret (st := []) dX7_due_143 rfl rfl ⟨_, rfl, _, _, rfl, rfl⟩
        · refine E_iload dX7_due_55 rfl ?_
          refine E_if_eq (tgt := 124) dX7_due_57 (by decide) (fun _ => ?_) (fun c => by first | exact absurd c (by decide) | exact absurd (by decide) c)
          refine E_iload dX7_due_124 rfl ?_
          refine E_if_eq (tgt := 141) dX7_due_126 (by decide) (fun _ => ?_) (fun c => by first | exact absurd c (by decide) | exact absurd (by decide) c)
          refine E_bipush (v := (-2)) dX7_due_141 (by decide) ?_
          exact E_iret (st := []) dX7_due_143 rfl rfl ⟨_, rfl, _, _, rfl, rfl⟩
      · refine E_iconst (v := 1) dX7_due_96 (by decide) ?_
        refine E_goto (tgt := 101) dX7_due_97 (by decide) ?_
        refine E_istore (l2 := [.ref 38, .int x, .long z, .null, .int (nI n), .int v, .int 1, .int y, .long b, .null, .int (nI (m + 1) - 1), l11]) dX7_due_101 (by decide) rfl ?_
        refine E_iload dX7_due_103 rfl ?_
        refine E_bipush (v := 10) dX7_due_105 (by decide) ?_
        refine E_idiv dX7_due_107 (by decide) ?_
        refine E_istore (l2 := [.ref 38, .int x, .long z, .null, .int (nI n), .int v, .int 1, .int (y / 10), .long b, .null, .int (nI (m + 1) - 1), l11]) dX7_due_108 (by decide) rfl ?_
        refine E_lload dX7_due_110 rfl ?_
        refine E_ldc2 dX7_due_112 qX7_126 ?_
        refine E_ldiv dX7_due_115 (by decide) ?_
        refine E_lstore (l2 := [.ref 38, .int x, .long z, .null, .int (nI n), .int v, .int 1, .int (y / 10), .long (b / 100), .null, .int (nI (m + 1) - 1), l11]) dX7_due_116 (by decide) rfl ?_
        refine E_iinc (y := nI m - 1) (l2 := [.ref 38, .int x, .long z, .null, .int (nI n), .int v, .int 1, .int (y / 10), .long (b / 100), .null, .int (nI m - 1), l11]) dX7_due_118 rfl (m1_add m) (by decide) rfl ?_
        refine E_goto (tgt := 50) dX7_due_121 (by decide) ?_
        exact ih _ _ _ _ _ (by omega) (by rw [rn, if_neg c93, rd] at h; exact h)
  refine E_iload dX7_due_0 rfl ?_
  refine E_iconst (v := 1) dX7_due_2 (by decide) ?_
  refine E_bipush (v := 8) dX7_due_3 (by decide) ?_
  refine E_callS (As := [.int (nI n), .int 1, .int 8]) (l' := [.int (nI n), .int 1, .int 8]) (st := []) dX7_due_5 kX7_48 sX7_in MX7_in rfl rfl (Nat.le_of_ble_eq_true rfl) (FC.use (c_in (d + 1) _ _ _) rfl (L2 := [(38, .inr (7, [.ref 39, .ref 40, .int bu, .int (nI q), .ref 41, .int (nI pn), .ref 42, .int fl, .int fa, .int fw, .int fr, .int rs, .int ac, .ref 43, .ref 44, .ref 45, .ref 46, .ref 47, .ref 48, .ref 49])), (43, .inl (false, 8, tk)), (44, .inl (false, 8, du))]) rfl) (Nat.le_of_ble_eq_true rfl) (fun _ _ hq9 => E_fgo ?_ hq9)
  show E _ _ 8 [.ref 38, .int x, .long z, .null, .int (nI n), .int v, .null, .null, .null, .null, .null, .null] [.int (b2i (inI (nI n) 1 8))] (hov hp [(38, .inr (7, [.ref 39, .ref 40, .int bu, .int (nI q), .ref 41, .int (nI pn), .ref 42, .int fl, .int fa, .int fw, .int fr, .int rs, .int ac, .ref 43, .ref 44, .ref 45, .ref 46, .ref 47, .ref 48, .ref 49])), (43, .inl (false, 8, tk)), (44, .inl (false, 8, du))]) _
  refine E_if_eq (tgt := 35) dX7_due_8 (by decide) (fun c => (b2i_x1 h0 c).elim) (fun _ => ?_)
  refine E_iload_n dX7_due_11 rfl ?_
  refine E_if_le (tgt := 35) dX7_due_12 (by decide) (fun c => absurd c hx) (fun _ => ?_)
  refine E_lload_n dX7_due_15 rfl ?_
  refine E_lconst (v := 0) dX7_due_16 (by decide) ?_
  refine E_lcmp dX7_due_17 ?_
  refine E_if_lt (tgt := 35) dX7_due_18 (by decide) (fun c => absurd ((lg_cmp_lt _ _).mp c) hz) (fun _ => ?_)
  refine E_iload dX7_due_21 rfl ?_
  refine E_iconst (v := 0) dX7_due_23 (by decide) ?_
  refine E_iconst (v := 1) dX7_due_24 (by decide) ?_
  refine E_callS (As := [.int v, .int 0, .int 1]) (l' := [.int v, .int 0, .int 1]) (st := []) dX7_due_25 kX7_48 sX7_in MX7_in rfl rfl (Nat.le_of_ble_eq_true rfl) (FC.use (c_in (d + 1) _ _ _) rfl (L2 := [(38, .inr (7, [.ref 39, .ref 40, .int bu, .int (nI q), .ref 41, .int (nI pn), .ref 42, .int fl, .int fa, .int fw, .int fr, .int rs, .int ac, .ref 43, .ref 44, .ref 45, .ref 46, .ref 47, .ref 48, .ref 49])), (43, .inl (false, 8, tk)), (44, .inl (false, 8, du))]) rfl) (Nat.le_of_ble_eq_true rfl) (fun _ _ hq9 => E_fgo ?_ hq9)
  show E _ _ 28 [.ref 38, .int x, .long z, .null, .int (nI n), .int v, .null, .null, .null, .null, .null, .null] [.int (b2i (inI v 0 1))] (hov hp [(38, .inr (7, [.ref 39, .ref 40, .int bu, .int (nI q), .ref 41, .int (nI pn), .ref 42, .int fl, .int fa, .int fw, .int fr, .int rs, .int ac, .ref 43, .ref 44, .ref 45, .ref 46, .ref 47, .ref 48, .ref 49])), (43, .inl (false, 8, tk)), (44, .inl (false, 8, du))]) _
  refine E_if_eq (tgt := 35) dX7_due_28 (by decide) (fun c => (b2i_x1 h1 c).elim) (fun _ => ?_)
  refine E_iconst (v := 1) dX7_due_31 (by decide) ?_
  refine E_goto (tgt := 36) dX7_due_32 (by decide) ?_
  refine E_istore (l2 := [.ref 38, .int x, .long z, .null, .int (nI n), .int v, .int 1, .null, .null, .null, .null, .null]) dX7_due_36 (by decide) rfl ?_
  refine E_iload_n dX7_due_38 rfl ?_
  refine E_istore (l2 := [.ref 38, .int x, .long z, .null, .int (nI n), .int v, .int 1, .int x, .null, .null, .null, .null]) dX7_due_39 (by decide) rfl ?_
  refine E_lload_n dX7_due_41 rfl ?_
  refine E_lstore (l2 := [.ref 38, .int x, .long z, .null, .int (nI n), .int v, .int 1, .int x, .long z, .null, .null, .null]) dX7_due_42 (by decide) rfl ?_
  refine E_iload dX7_due_44 rfl ?_
  refine E_iconst (v := 1) dX7_due_46 (by decide) ?_
  refine E_isub dX7_due_47 ?_
  refine E_istore (l2 := [.ref 38, .int x, .long z, .null, .int (nI n), .int v, .int 1, .int x, .long z, .null, .int ((nI n) - 1), .null]) dX7_due_48 (by decide) rfl ?_
  exact L n x z tk du _ hn h
