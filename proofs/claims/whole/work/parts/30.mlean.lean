/-! fractions, the reference's way -/
def gdZ : Nat → Int64 → Int64 → Bool
  | 0, _, b => decide (b = 0)
  | k + 1, a, b => if b = 0 then true else gdZ k b (rmL a b)
theorem gdZ_s {k : Nat} {a b : Int64} (h : gdZ (k + 1) a b = true) (hb : ¬ b = 0) : gdZ k b (rmL a b) = true := by rw [gdZ, if_neg hb] at h; exact h
def lfP (u w : Int64) : Bool := gdZ 60 u w && (!decide (gd 60 u w = 0) && (decide (ilt u w 0 = u / gd 60 u w) && decide (ilt u w 1 = w / gd 60 u w)))
set_option maxRecDepth 100000 in
theorem lf_1 : ∀ t, t < 11 → 1 ≤ t → lfP 100 (Int32.toInt64 (nI (t * t))) = true := by decide +kernel
set_option maxRecDepth 100000 in
theorem lf_0 : ∀ n, n < 9 → ∀ t, t < 11 → lfP (pwL (Int32.toInt64 (100 - nI (t * t))) n) (pwL 100 n) = true := by decide +kernel
theorem lf_z {u w : Int64} (h : lfP u w = true) : gdZ 60 u w = true ∧ ¬ gd 60 u w = 0 ∧ ilt u w 0 = u / gd 60 u w ∧ ilt u w 1 = w / gd 60 u w := by
  simp only [lfP, Bool.and_eq_true, Bool.not_eq_true', decide_eq_true_eq, decide_eq_false_iff_not] at h
  exact ⟨h.1, h.2.1, h.2.2.1, h.2.2.2⟩

set_option maxHeartbeats 4000000 in
set_option maxRecDepth 20000 in
theorem m_lowest_0 (d : Nat) (u w : Int64) (hl : lfP u w = true) : FC YX7_lowest d [.long u, .null, .long w, .null, .int 0, .null, .null, .null, .null, .null, .null] [] (some (.long (ilt u w 0))) [] := by
  intro hp
  obtain ⟨hz, hg, e0, e1⟩ := lf_z hl
  have L : ∀ (k : Nat) (a b : Int64) (l9 l10 : Value), gdZ k a b = true → gd k a b = gd 60 u w → E YX7_lowest d 6 [.long u, .null, .long w, .null, .int 0, .long a, .null, .long b, .null, l9, l10] [] (hov hp []) (fun v h' => v = some (.long (ilt u w 0)) ∧ h' = hov hp []) := by
    intro k
    induction k with
    | zero =>
      intro a b l9 l10 hk he
      have hb : b = 0 := of_decide_eq_true hk
      have ha : gd 60 u w = a := he.symm
      refine E_lload dX7_lowest_6 rfl ?_
      refine E_lconst (v := 0) dX7_lowest_8 (by decide) ?_
      refine E_lcmp dX7_lowest_9 ?_
      refine E_if_eq (tgt := 31) dX7_lowest_10 (by decide) (fun _ => ?_) (fun c => absurd ((lg_cmp_eq _ _).mpr hb) c)
      refine E_iload dX7_lowest_31 rfl ?_
      refine E_if_ne (tgt := 43) dX7_lowest_33 (by decide) (fun c => by first | exact absurd c (by decide) | exact absurd (by decide) c) (fun _ => ?_)
      refine E_lload_n dX7_lowest_36 rfl ?_
      refine E_lload dX7_lowest_37 rfl ?_
      refine E_ldiv dX7_lowest_39 (by rw [← ha]; exact hg) ?_
      refine E_goto (tgt := 47) dX7_lowest_40 (by decide) ?_
      exact E_lretf dX7_lowest_47 rfl (by rw [← ha, e0]) rfl
    | succ k ih =>
      intro a b l9 l10 hk he
      by_cases hb : b = 0
      · have ha : gd 60 u w = a := by rw [← he, gd, if_pos hb]
        refine E_lload dX7_lowest_6 rfl ?_
        refine E_lconst (v := 0) dX7_lowest_8 (by decide) ?_
        refine E_lcmp dX7_lowest_9 ?_
        refine E_if_eq (tgt := 31) dX7_lowest_10 (by decide) (fun _ => ?_) (fun c => absurd ((lg_cmp_eq _ _).mpr hb) c)
        refine E_iload dX7_lowest_31 rfl ?_
        refine E_if_ne (tgt := 43) dX7_lowest_33 (by decide) (fun c => by first | exact absurd c (by decide) | exact absurd (by decide) c) (fun _ => ?_)
        refine E_lload_n dX7_lowest_36 rfl ?_
        refine E_lload dX7_lowest_37 rfl ?_
        refine E_ldiv dX7_lowest_39 (by rw [← ha]; exact hg) ?_
        refine E_goto (tgt := 47) dX7_lowest_40 (by decide) ?_
        exact E_lretf dX7_lowest_47 rfl (by rw [← ha, e0]) rfl
      · refine E_lload dX7_lowest_6 rfl ?_
        refine E_lconst (v := 0) dX7_lowest_8 (by decide) ?_
        refine E_lcmp dX7_lowest_9 ?_
        refine E_if_eq (tgt := 31) dX7_lowest_10 (by decide) (fun c => absurd ((lg_cmp_eq _ _).mp c) hb) (fun _ => ?_)
        refine E_lload dX7_lowest_13 rfl ?_
        refine E_lload dX7_lowest_15 rfl ?_
        refine E_lrem dX7_lowest_17 hb ?_
        refine E_lstore (l2 := [.long u, .null, .long w, .null, .int 0, .long a, .null, .long b, .null, .long (rmL a b), .null]) dX7_lowest_18 (by decide) rfl ?_
        refine E_lload dX7_lowest_20 rfl ?_
        refine E_lstore (l2 := [.long u, .null, .long w, .null, .int 0, .long b, .null, .long b, .null, .long (rmL a b), .null]) dX7_lowest_22 (by decide) rfl ?_
        refine E_lload dX7_lowest_24 rfl ?_
        refine E_lstore (l2 := [.long u, .null, .long w, .null, .int 0, .long b, .null, .long (rmL a b), .null, .long (rmL a b), .null]) dX7_lowest_26 (by decide) rfl ?_
        refine E_goto (tgt := 6) dX7_lowest_28 (by decide) ?_
        exact ih _ _ _ _ (gdZ_s hk hb) (by rw [← he, gd, if_neg hb])
  refine E_lload_n dX7_lowest_0 rfl ?_
  refine E_lstore (l2 := [.long u, .null, .long w, .null, .int 0, .long u, .null, .null, .null, .null, .null]) dX7_lowest_1 (by decide) rfl ?_
  refine E_lload_n dX7_lowest_3 rfl ?_
  refine E_lstore (l2 := [.long u, .null, .long w, .null, .int 0, .long u, .null, .long w, .null, .null, .null]) dX7_lowest_4 (by decide) rfl ?_
  exact L 60 _ _ _ _ hz rfl

set_option maxHeartbeats 4000000 in
set_option maxRecDepth 20000 in
theorem m_lowest_1 (d : Nat) (u w : Int64) (hl : lfP u w = true) : FC YX7_lowest d [.long u, .null, .long w, .null, .int 1, .null, .null, .null, .null, .null, .null] [] (some (.long (ilt u w 1))) [] := by
  intro hp
  obtain ⟨hz, hg, e0, e1⟩ := lf_z hl
  have L : ∀ (k : Nat) (a b : Int64) (l9 l10 : Value), gdZ k a b = true → gd k a b = gd 60 u w → E YX7_lowest d 6 [.long u, .null, .long w, .null, .int 1, .long a, .null, .long b, .null, l9, l10] [] (hov hp []) (fun v h' => v = some (.long (ilt u w 1)) ∧ h' = hov hp []) := by
    intro k
    induction k with
    | zero =>
      intro a b l9 l10 hk he
      have hb : b = 0 := of_decide_eq_true hk
      have ha : gd 60 u w = a := he.symm
      refine E_lload dX7_lowest_6 rfl ?_
      refine E_lconst (v := 0) dX7_lowest_8 (by decide) ?_
      refine E_lcmp dX7_lowest_9 ?_
      refine E_if_eq (tgt := 31) dX7_lowest_10 (by decide) (fun _ => ?_) (fun c => absurd ((lg_cmp_eq _ _).mpr hb) c)
      refine E_iload dX7_lowest_31 rfl ?_
      refine E_if_ne (tgt := 43) dX7_lowest_33 (by decide) (fun _ => ?_) (fun c => by first | exact absurd c (by decide) | exact absurd (by decide) c)
      refine E_lload_n dX7_lowest_43 rfl ?_
      refine E_lload dX7_lowest_44 rfl ?_
      refine E_ldiv dX7_lowest_46 (by rw [← ha]; exact hg) ?_
      exact E_lretf dX7_lowest_47 rfl (by rw [← ha, e1]) rfl
    | succ k ih =>
      intro a b l9 l10 hk he
      by_cases hb : b = 0
      · have ha : gd 60 u w = a := by rw [← he, gd, if_pos hb]
        refine E_lload dX7_lowest_6 rfl ?_
        refine E_lconst (v := 0) dX7_lowest_8 (by decide) ?_
        refine E_lcmp dX7_lowest_9 ?_
        refine E_if_eq (tgt := 31) dX7_lowest_10 (by decide) (fun _ => ?_) (fun c => absurd ((lg_cmp_eq _ _).mpr hb) c)
        refine E_iload dX7_lowest_31 rfl ?_
        refine E_if_ne (tgt := 43) dX7_lowest_33 (by decide) (fun _ => ?_) (fun c => by first | exact absurd c (by decide) | exact absurd (by decide) c)
        refine E_lload_n dX7_lowest_43 rfl ?_
        refine E_lload dX7_lowest_44 rfl ?_
        refine E_ldiv dX7_lowest_46 (by rw [← ha]; exact hg) ?_
        exact E_lretf dX7_lowest_47 rfl (by rw [← ha, e1]) rfl
      · refine E_lload dX7_lowest_6 rfl ?_
        refine E_lconst (v := 0) dX7_lowest_8 (by decide) ?_
        refine E_lcmp dX7_lowest_9 ?_
        refine E_if_eq (tgt := 31) dX7_lowest_10 (by decide) (fun c => absurd ((lg_cmp_eq _ _).mp c) hb) (fun _ => ?_)
        refine E_lload dX7_lowest_13 rfl ?_
        refine E_lload dX7_lowest_15 rfl ?_
        refine E_lrem dX7_lowest_17 hb ?_
        refine E_lstore (l2 := [.long u, .null, .long w, .null, .int 1, .long a, .null, .long b, .null, .long (rmL a b), .null]) dX7_lowest_18 (by decide) rfl ?_
        refine E_lload dX7_lowest_20 rfl ?_
        refine E_lstore (l2 := [.long u, .null, .long w, .null, .int 1, .long b, .null, .long b, .null, .long (rmL a b), .null]) dX7_lowest_22 (by decide) rfl ?_
        refine E_lload dX7_lowest_24 rfl ?_
        refine E_lstore (l2 := [.long u, .null, .long w, .null, .int 1, .long b, .null, .long (rmL a b), .null, .long (rmL a b), .null]) dX7_lowest_26 (by decide) rfl ?_
        refine E_goto (tgt := 6) dX7_lowest_28 (by decide) ?_
        exact ih _ _ _ _ (gdZ_s hk hb) (by rw [← he, gd, if_neg hb])
  refine E_lload_n dX7_lowest_0 rfl ?_
  refine E_lstore (l2 := [.long u, .null, .long w, .null, .int 1, .long u, .null, .null, .null, .null, .null]) dX7_lowest_1 (by decide) rfl ?_
  refine E_lload_n dX7_lowest_3 rfl ?_
  refine E_lstore (l2 := [.long u, .null, .long w, .null, .int 1, .long u, .null, .long w, .null, .null, .null]) dX7_lowest_4 (by decide) rfl ?_
  exact L 60 _ _ _ _ hz rfl

set_option maxHeartbeats 4000000 in
set_option maxRecDepth 20000 in
theorem m_lean_oN (d : Nat) (bu fl fa fw fr rs ac : Int32) (q pn : Nat) (n t w p : Int32) (h1 : inI n 0 8 = false) : FC YX7_lean (d + 1) [.ref 38, .int n, .int t, .int w, .int p, .null, .null, .null, .null, .null] [(38, .inr (7, [.ref 39, .ref 40, .int bu, .int (nI q), .ref 41, .int (nI pn), .ref 42, .int fl, .int fa, .int fw, .int fr, .int rs, .int ac, .ref 43, .ref 44, .ref 45, .ref 46, .ref 47, .ref 48, .ref 49]))] (some (.long (-1000000000000000002))) [(38, .inr (7, [.ref 39, .ref 40, .int bu, .int (nI q), .ref 41, .int (nI pn), .ref 42, .int fl, .int fa, .int fw, .int fr, .int rs, .int ac, .ref 43, .ref 44, .ref 45, .ref 46, .ref 47, .ref 48, .ref 49]))] := by
  intro hp
  refine E_iload_n dX7_lean_0 rfl ?_
  refine E_iconst (v := 0) dX7_lean_1 (by decide) ?_
  refine E_bipush (v := 8) dX7_lean_2 (by decide) ?_
  refine E_callS (As := [.int n, .int 0, .int 8]) (l' := [.int n, .int 0, .int 8]) (st := []) dX7_lean_4 kX7_48 sX7_in MX7_in rfl rfl (Nat.le_of_ble_eq_true rfl) (FC.use (c_in d _ _ _) rfl (L2 := [(38, .inr (7, [.ref 39, .ref 40, .int bu, .int (nI q), .ref 41, .int (nI pn), .ref 42, .int fl, .int fa, .int fw, .int fr, .int rs, .int ac, .ref 43, .ref 44, .ref 45, .ref 46, .ref 47, .ref 48, .ref 49]))]) rfl) (Nat.le_of_ble_eq_true rfl) (fun _ _ hq9 => E_fgo ?_ hq9)
  show E _ _ 7 [.ref 38, .int n, .int t, .int w, .int p, .null, .null, .null, .null, .null] [.int (b2i (inI n 0 8))] (hov hp [(38, .inr (7, [.ref 39, .ref 40, .int bu, .int (nI q), .ref 41, .int (nI pn), .ref 42, .int fl, .int fa, .int fw, .int fr, .int rs, .int ac, .ref 43, .ref 44, .ref 45, .ref 46, .ref 47, .ref 48, .ref 49]))]) _
  refine E_if_eq (tgt := 48) dX7_lean_7 (by decide) (fun _ => ?_) (fun c => (b2i_x0 h1 c).elim)
  refine E_ldc2 dX7_lean_48 qX7_145 ?_
  exact E_lretf dX7_lean_51 rfl rfl rfl

set_option maxHeartbeats 4000000 in
set_option maxRecDepth 20000 in
theorem m_lean_oT (d : Nat) (bu fl fa fw fr rs ac : Int32) (q pn : Nat) (n t w p : Int32) (h1 : inI n 0 8 = true) (h2 : inI t 0 10 = false) : FC YX7_lean (d + 1) [.ref 38, .int n, .int t, .int w, .int p, .null, .null, .null, .null, .null] [(38, .inr (7, [.ref 39, .ref 40, .int bu, .int (nI q), .ref 41, .int (nI pn), .ref 42, .int fl, .int fa, .int fw, .int fr, .int rs, .int ac, .ref 43, .ref 44, .ref 45, .ref 46, .ref 47, .ref 48, .ref 49]))] (some (.long (-1000000000000000002))) [(38, .inr (7, [.ref 39, .ref 40, .int bu, .int (nI q), .ref 41, .int (nI pn), .ref 42, .int fl, .int fa, .int fw, .int fr, .int rs, .int ac, .ref 43, .ref 44, .ref 45, .ref 46, .ref 47, .ref 48, .ref 49]))] := by
  intro hp
  refine E_iload_n dX7_lean_0 rfl ?_
  refine E_iconst (v := 0) dX7_lean_1 (by decide) ?_
  refine E_bipush (v := 8) dX7_lean_2 (by decide) ?_
  refine E_callS (As := [.int n, .int 0, .int 8]) (l' := [.int n, .int 0, .int 8]) (st := []) dX7_lean_4 kX7_48 sX7_in MX7_in rfl rfl (Nat.le_of_ble_eq_true rfl) (FC.use (c_in d _ _ _) rfl (L2 := [(38, .inr (7, [.ref 39, .ref 40, .int bu, .int (nI q), .ref 41, .int (nI pn), .ref 42, .int fl, .int fa, .int fw, .int fr, .int rs, .int ac, .ref 43, .ref 44, .ref 45, .ref 46, .ref 47, .ref 48, .ref 49]))]) rfl) (Nat.le_of_ble_eq_true rfl) (fun _ _ hq9 => E_fgo ?_ hq9)
  show E _ _ 7 [.ref 38, .int n, .int t, .int w, .int p, .null, .null, .null, .null, .null] [.int (b2i (inI n 0 8))] (hov hp [(38, .inr (7, [.ref 39, .ref 40, .int bu, .int (nI q), .ref 41, .int (nI pn), .ref 42, .int fl, .int fa, .int fw, .int fr, .int rs, .int ac, .ref 43, .ref 44, .ref 45, .ref 46, .ref 47, .ref 48, .ref 49]))]) _
  refine E_if_eq (tgt := 48) dX7_lean_7 (by decide) (fun c => (b2i_x1 h1 c).elim) (fun _ => ?_)
  refine E_iload_n dX7_lean_10 rfl ?_
  refine E_iconst (v := 0) dX7_lean_11 (by decide) ?_
  refine E_bipush (v := 10) dX7_lean_12 (by decide) ?_
  refine E_callS (As := [.int t, .int 0, .int 10]) (l' := [.int t, .int 0, .int 10]) (st := []) dX7_lean_14 kX7_48 sX7_in MX7_in rfl rfl (Nat.le_of_ble_eq_true rfl) (FC.use (c_in d _ _ _) rfl (L2 := [(38, .inr (7, [.ref 39, .ref 40, .int bu, .int (nI q), .ref 41, .int (nI pn), .ref 42, .int fl, .int fa, .int fw, .int fr, .int rs, .int ac, .ref 43, .ref 44, .ref 45, .ref 46, .ref 47, .ref 48, .ref 49]))]) rfl) (Nat.le_of_ble_eq_true rfl) (fun _ _ hq9 => E_fgo ?_ hq9)
  show E _ _ 17 [.ref 38, .int n, .int t, .int w, .int p, .null, .null, .null, .null, .null] [.int (b2i (inI t 0 10))] (hov hp [(38, .inr (7, [.ref 39, .ref 40, .int bu, .int (nI q), .ref 41, .int (nI pn), .ref 42, .int fl, .int fa, .int fw, .int fr, .int rs, .int ac, .ref 43, .ref 44, .ref 45, .ref 46, .ref 47, .ref 48, .ref 49]))]) _
  refine E_if_eq (tgt := 48) dX7_lean_17 (by decide) (fun _ => ?_) (fun c => (b2i_x0 h2 c).elim)
  refine E_ldc2 dX7_lean_48 qX7_145 ?_
  exact E_lretf dX7_lean_51 rfl rfl rfl

set_option maxHeartbeats 4000000 in
set_option maxRecDepth 20000 in
theorem m_lean_oW (d : Nat) (bu fl fa fw fr rs ac : Int32) (q pn : Nat) (n t w p : Int32) (h1 : inI n 0 8 = true) (h2 : inI t 0 10 = true) (h3 : inI w 0 1 = false) : FC YX7_lean (d + 1) [.ref 38, .int n, .int t, .int w, .int p, .null, .null, .null, .null, .null] [(38, .inr (7, [.ref 39, .ref 40, .int bu, .int (nI q), .ref 41, .int (nI pn), .ref 42, .int fl, .int fa, .int fw, .int fr, .int rs, .int ac, .ref 43, .ref 44, .ref 45, .ref 46, .ref 47, .ref 48, .ref 49]))] (some (.long (-1000000000000000002))) [(38, .inr (7, [.ref 39, .ref 40, .int bu, .int (nI q), .ref 41, .int (nI pn), .ref 42, .int fl, .int fa, .int fw, .int fr, .int rs, .int ac, .ref 43, .ref 44, .ref 45, .ref 46, .ref 47, .ref 48, .ref 49]))] := by
  intro hp
  refine E_iload_n dX7_lean_0 rfl ?_
  refine E_iconst (v := 0) dX7_lean_1 (by decide) ?_
  refine E_bipush (v := 8) dX7_lean_2 (by decide) ?_
  refine E_callS (As := [.int n, .int 0, .int 8]) (l' := [.int n, .int 0, .int 8]) (st := []) dX7_lean_4 kX7_48 sX7_in MX7_in rfl rfl (Nat.le_of_ble_eq_true rfl) (FC.use (c_in d _ _ _) rfl (L2 := [(38, .inr (7, [.ref 39, .ref 40, .int bu, .int (nI q), .ref 41, .int (nI pn), .ref 42, .int fl, .int fa, .int fw, .int fr, .int rs, .int ac, .ref 43, .ref 44, .ref 45, .ref 46, .ref 47, .ref 48, .ref 49]))]) rfl) (Nat.le_of_ble_eq_true rfl) (fun _ _ hq9 => E_fgo ?_ hq9)
  show E _ _ 7 [.ref 38, .int n, .int t, .int w, .int p, .null, .null, .null, .null, .null] [.int (b2i (inI n 0 8))] (hov hp [(38, .inr (7, [.ref 39, .ref 40, .int bu, .int (nI q), .ref 41, .int (nI pn), .ref 42, .int fl, .int fa, .int fw, .int fr, .int rs, .int ac, .ref 43, .ref 44, .ref 45, .ref 46, .ref 47, .ref 48, .ref 49]))]) _
  refine E_if_eq (tgt := 48) dX7_lean_7 (by decide) (fun c => (b2i_x1 h1 c).elim) (fun _ => ?_)
  refine E_iload_n dX7_lean_10 rfl ?_
  refine E_iconst (v := 0) dX7_lean_11 (by decide) ?_
  refine E_bipush (v := 10) dX7_lean_12 (by decide) ?_
  refine E_callS (As := [.int t, .int 0, .int 10]) (l' := [.int t, .int 0, .int 10]) (st := []) dX7_lean_14 kX7_48 sX7_in MX7_in rfl rfl (Nat.le_of_ble_eq_true rfl) (FC.use (c_in d _ _ _) rfl (L2 := [(38, .inr (7, [.ref 39, .ref 40, .int bu, .int (nI q), .ref 41, .int (nI pn), .ref 42, .int fl, .int fa, .int fw, .int fr, .int rs, .int ac, .ref 43, .ref 44, .ref 45, .ref 46, .ref 47, .ref 48, .ref 49]))]) rfl) (Nat.le_of_ble_eq_true rfl) (fun _ _ hq9 => E_fgo ?_ hq9)
  show E _ _ 17 [.ref 38, .int n, .int t, .int w, .int p, .null, .null, .null, .null, .null] [.int (b2i (inI t 0 10))] (hov hp [(38, .inr (7, [.ref 39, .ref 40, .int bu, .int (nI q), .ref 41, .int (nI pn), .ref 42, .int fl, .int fa, .int fw, .int fr, .int rs, .int ac, .ref 43, .ref 44, .ref 45, .ref 46, .ref 47, .ref 48, .ref 49]))]) _
  refine E_if_eq (tgt := 48) dX7_lean_17 (by decide) (fun c => (b2i_x1 h2 c).elim) (fun _ => ?_)
  refine E_iload_n dX7_lean_20 rfl ?_
  refine E_iconst (v := 0) dX7_lean_21 (by decide) ?_
  refine E_iconst (v := 1) dX7_lean_22 (by decide) ?_
  refine E_callS (As := [.int w, .int 0, .int 1]) (l' := [.int w, .int 0, .int 1]) (st := []) dX7_lean_23 kX7_48 sX7_in MX7_in rfl rfl (Nat.le_of_ble_eq_true rfl) (FC.use (c_in d _ _ _) rfl (L2 := [(38, .inr (7, [.ref 39, .ref 40, .int bu, .int (nI q), .ref 41, .int (nI pn), .ref 42, .int fl, .int fa, .int fw, .int fr, .int rs, .int ac, .ref 43, .ref 44, .ref 45, .ref 46, .ref 47, .ref 48, .ref 49]))]) rfl) (Nat.le_of_ble_eq_true rfl) (fun _ _ hq9 => E_fgo ?_ hq9)
  show E _ _ 26 [.ref 38, .int n, .int t, .int w, .int p, .null, .null, .null, .null, .null] [.int (b2i (inI w 0 1))] (hov hp [(38, .inr (7, [.ref 39, .ref 40, .int bu, .int (nI q), .ref 41, .int (nI pn), .ref 42, .int fl, .int fa, .int fw, .int fr, .int rs, .int ac, .ref 43, .ref 44, .ref 45, .ref 46, .ref 47, .ref 48, .ref 49]))]) _
  refine E_if_eq (tgt := 48) dX7_lean_26 (by decide) (fun _ => ?_) (fun c => (b2i_x0 h3 c).elim)
  refine E_ldc2 dX7_lean_48 qX7_145 ?_
  exact E_lretf dX7_lean_51 rfl rfl rfl

set_option maxHeartbeats 4000000 in
set_option maxRecDepth 20000 in
theorem m_lean_oZ (d : Nat) (bu fl fa fw fr rs ac : Int32) (q pn : Nat) (n t w p : Int32) (h1 : inI n 0 8 = true) (h2 : inI t 0 10 = true) (h3 : inI w 0 1 = true) (hw : w = 1) (ht : t = 0) : FC YX7_lean (d + 1) [.ref 38, .int n, .int t, .int w, .int p, .null, .null, .null, .null, .null] [(38, .inr (7, [.ref 39, .ref 40, .int bu, .int (nI q), .ref 41, .int (nI pn), .ref 42, .int fl, .int fa, .int fw, .int fr, .int rs, .int ac, .ref 43, .ref 44, .ref 45, .ref 46, .ref 47, .ref 48, .ref 49]))] (some (.long (-1000000000000000002))) [(38, .inr (7, [.ref 39, .ref 40, .int bu, .int (nI q), .ref 41, .int (nI pn), .ref 42, .int fl, .int fa, .int fw, .int fr, .int rs, .int ac, .ref 43, .ref 44, .ref 45, .ref 46, .ref 47, .ref 48, .ref 49]))] := by
  intro hp
  refine E_iload_n dX7_lean_0 rfl ?_
  refine E_iconst (v := 0) dX7_lean_1 (by decide) ?_
  refine E_bipush (v := 8) dX7_lean_2 (by decide) ?_
  refine E_callS (As := [.int n, .int 0, .int 8]) (l' := [.int n, .int 0, .int 8]) (st := []) dX7_lean_4 kX7_48 sX7_in MX7_in rfl rfl (Nat.le_of_ble_eq_true rfl) (FC.use (c_in d _ _ _) rfl (L2 := [(38, .inr (7, [.ref 39, .ref 40, .int bu, .int (nI q), .ref 41, .int (nI pn), .ref 42, .int fl, .int fa, .int fw, .int fr, .int rs, .int ac, .ref 43, .ref 44, .ref 45, .ref 46, .ref 47, .ref 48, .ref 49]))]) rfl) (Nat.le_of_ble_eq_true rfl) (fun _ _ hq9 => E_fgo ?_ hq9)
  show E _ _ 7 [.ref 38, .int n, .int t, .int w, .int p, .null, .null, .null, .null, .null] [.int (b2i (inI n 0 8))] (hov hp [(38, .inr (7, [.ref 39, .ref 40, .int bu, .int (nI q), .ref 41, .int (nI pn), .ref 42, .int fl, .int fa, .int fw, .int fr, .int rs, .int ac, .ref 43, .ref 44, .ref 45, .ref 46, .ref 47, .ref 48, .ref 49]))]) _
  refine E_if_eq (tgt := 48) dX7_lean_7 (by decide) (fun c => (b2i_x1 h1 c).elim) (fun _ => ?_)
  refine E_iload_n dX7_lean_10 rfl ?_
  refine E_iconst (v := 0) dX7_lean_11 (by decide) ?_
  refine E_bipush (v := 10) dX7_lean_12 (by decide) ?_
  refine E_callS (As := [.int t, .int 0, .int 10]) (l' := [.int t, .int 0, .int 10]) (st := []) dX7_lean_14 kX7_48 sX7_in MX7_in rfl rfl (Nat.le_of_ble_eq_true rfl) (FC.use (c_in d _ _ _) rfl (L2 := [(38, .inr (7, [.ref 39, .ref 40, .int bu, .int (nI q), .ref 41, .int (nI pn), .ref 42, .int fl, .int fa, .int fw, .int fr, .int rs, .int ac, .ref 43, .ref 44, .ref 45, .ref 46, .ref 47, .ref 48, .ref 49]))]) rfl) (Nat.le_of_ble_eq_true rfl) (fun _ _ hq9 => E_fgo ?_ hq9)
  show E _ _ 17 [.ref 38, .int n, .int t, .int w, .int p, .null, .null, .null, .null, .null] [.int (b2i (inI t 0 10))] (hov hp [(38, .inr (7, [.ref 39, .ref 40, .int bu, .int (nI q), .ref 41, .int (nI pn), .ref 42, .int fl, .int fa, .int fw, .int fr, .int rs, .int ac, .ref 43, .ref 44, .ref 45, .ref 46, .ref 47, .ref 48, .ref 49]))]) _
  refine E_if_eq (tgt := 48) dX7_lean_17 (by decide) (fun c => (b2i_x1 h2 c).elim) (fun _ => ?_)
  refine E_iload_n dX7_lean_20 rfl ?_
  refine E_iconst (v := 0) dX7_lean_21 (by decide) ?_
  refine E_iconst (v := 1) dX7_lean_22 (by decide) ?_
  refine E_callS (As := [.int w, .int 0, .int 1]) (l' := [.int w, .int 0, .int 1]) (st := []) dX7_lean_23 kX7_48 sX7_in MX7_in rfl rfl (Nat.le_of_ble_eq_true rfl) (FC.use (c_in d _ _ _) rfl (L2 := [(38, .inr (7, [.ref 39, .ref 40, .int bu, .int (nI q), .ref 41, .int (nI pn), .ref 42, .int fl, .int fa, .int fw, .int fr, .int rs, .int ac, .ref 43, .ref 44, .ref 45, .ref 46, .ref 47, .ref 48, .ref 49]))]) rfl) (Nat.le_of_ble_eq_true rfl) (fun _ _ hq9 => E_fgo ?_ hq9)
  show E _ _ 26 [.ref 38, .int n, .int t, .int w, .int p, .null, .null, .null, .null, .null] [.int (b2i (inI w 0 1))] (hov hp [(38, .inr (7, [.ref 39, .ref 40, .int bu, .int (nI q), .ref 41, .int (nI pn), .ref 42, .int fl, .int fa, .int fw, .int fr, .int rs, .int ac, .ref 43, .ref 44, .ref 45, .ref 46, .ref 47, .ref 48, .ref 49]))]) _
  refine E_if_eq (tgt := 48) dX7_lean_26 (by decide) (fun c => (b2i_x1 h3 c).elim) (fun _ => ?_)
  refine E_iload_n dX7_lean_29 rfl ?_
  refine E_iconst (v := 1) dX7_lean_30 (by decide) ?_
  refine E_icmp_ne (tgt := 38) dX7_lean_31 (by decide) (fun c => absurd hw c) (fun _ => ?_)
  refine E_iload_n dX7_lean_34 rfl ?_
  refine E_if_eq (tgt := 48) dX7_lean_35 (by decide) (fun _ => ?_) (fun c => absurd ht c)
  refine E_ldc2 dX7_lean_48 qX7_145 ?_
  exact E_lretf dX7_lean_51 rfl rfl rfl

set_option maxHeartbeats 4000000 in
set_option maxRecDepth 20000 in
theorem m_lean_oP1 (d : Nat) (bu fl fa fw fr rs ac : Int32) (q pn : Nat) (n t w p : Int32) (h1 : inI n 0 8 = true) (h2 : inI t 0 10 = true) (h3 : inI w 0 1 = true) (hw : w = 1) (ht : ¬ t = 0) (h4 : inI p 0 1 = false) : FC YX7_lean (d + 1) [.ref 38, .int n, .int t, .int w, .int p, .null, .null, .null, .null, .null] [(38, .inr (7, [.ref 39, .ref 40, .int bu, .int (nI q), .ref 41, .int (nI pn), .ref 42, .int fl, .int fa, .int fw, .int fr, .int rs, .int ac, .ref 43, .ref 44, .ref 45, .ref 46, .ref 47, .ref 48, .ref 49]))] (some (.long (-1000000000000000002))) [(38, .inr (7, [.ref 39, .ref 40, .int bu, .int (nI q), .ref 41, .int (nI pn), .ref 42, .int fl, .int fa, .int fw, .int fr, .int rs, .int ac, .ref 43, .ref 44, .ref 45, .ref 46, .ref 47, .ref 48, .ref 49]))] := by
  intro hp
  refine E_iload_n dX7_lean_0 rfl ?_
  refine E_iconst (v := 0) dX7_lean_1 (by decide) ?_
  refine E_bipush (v := 8) dX7_lean_2 (by decide) ?_
  refine E_callS (As := [.int n, .int 0, .int 8]) (l' := [.int n, .int 0, .int 8]) (st := []) dX7_lean_4 kX7_48 sX7_in MX7_in rfl rfl (Nat.le_of_ble_eq_true rfl) (FC.use (c_in d _ _ _) rfl (L2 := [(38, .inr (7, [.ref 39, .ref 40, .int bu, .int (nI q), .ref 41, .int (nI pn), .ref 42, .int fl, .int fa, .int fw, .int fr, .int rs, .int ac, .ref 43, .ref 44, .ref 45, .ref 46, .ref 47, .ref 48, .ref 49]))]) rfl) (Nat.le_of_ble_eq_true rfl) (fun _ _ hq9 => E_fgo ?_ hq9)
  show E _ _ 7 [.ref 38, .int n, .int t, .int w, .int p, .null, .null, .null, .null, .null] [.int (b2i (inI n 0 8))] (hov hp [(38, .inr (7, [.ref 39, .ref 40, .int bu, .int (nI q), .ref 41, .int (nI pn), .ref 42, .int fl, .int fa, .int fw, .int fr, .int rs, .int ac, .ref 43, .ref 44, .ref 45, .ref 46, .ref 47, .ref 48, .ref 49]))]) _
  refine E_if_eq (tgt := 48) dX7_lean_7 (by decide) (fun c => (b2i_x1 h1 c).elim) (fun _ => ?_)
  refine E_iload_n dX7_lean_10 rfl ?_
  refine E_iconst (v := 0) dX7_lean_11 (by decide) ?_
  refine E_bipush (v := 10) dX7_lean_12 (by decide) ?_
  refine E_callS (As := [.int t, .int 0, .int 10]) (l' := [.int t, .int 0, .int 10]) (st := []) dX7_lean_14 kX7_48 sX7_in MX7_in rfl rfl (Nat.le_of_ble_eq_true rfl) (FC.use (c_in d _ _ _) rfl (L2 := [(38, .inr (7, [.ref 39, .ref 40, .int bu, .int (nI q), .ref 41, .int (nI pn), .ref 42, .int fl, .int fa, .int fw, .int fr, .int rs, .int ac, .ref 43, .ref 44, .ref 45, .ref 46, .ref 47, .ref 48, .ref 49]))]) rfl) (Nat.le_of_ble_eq_true rfl) (fun _ _ hq9 => E_fgo ?_ hq9)
  show E _ _ 17 [.ref 38, .int n, .int t, .int w, .int p, .null, .null, .null, .null, .null] [.int (b2i (inI t 0 10))] (hov hp [(38, .inr (7, [.ref 39, .ref 40, .int bu, .int (nI q), .ref 41, .int (nI pn), .ref 42, .int fl, .int fa, .int fw, .int fr, .int rs, .int ac, .ref 43, .ref 44, .ref 45, .ref 46, .ref 47, .ref 48, .ref 49]))]) _
  refine E_if_eq (tgt := 48) dX7_lean_17 (by decide) (fun c => (b2i_x1 h2 c).elim) (fun _ => ?_)
  refine E_iload_n dX7_lean_20 rfl ?_
  refine E_iconst (v := 0) dX7_lean_21 (by decide) ?_
  refine E_iconst (v := 1) dX7_lean_22 (by decide) ?_
  refine E_callS (As := [.int w, .int 0, .int 1]) (l' := [.int w, .int 0, .int 1]) (st := []) dX7_lean_23 kX7_48 sX7_in MX7_in rfl rfl (Nat.le_of_ble_eq_true rfl) (FC.use (c_in d _ _ _) rfl (L2 := [(38, .inr (7, [.ref 39, .ref 40, .int bu, .int (nI q), .ref 41, .int (nI pn), .ref 42, .int fl, .int fa, .int fw, .int fr, .int rs, .int ac, .ref 43, .ref 44, .ref 45, .ref 46, .ref 47, .ref 48, .ref 49]))]) rfl) (Nat.le_of_ble_eq_true rfl) (fun _ _ hq9 => E_fgo ?_ hq9)
  show E _ _ 26 [.ref 38, .int n, .int t, .int w, .int p, .null, .null, .null, .null, .null] [.int (b2i (inI w 0 1))] (hov hp [(38, .inr (7, [.ref 39, .ref 40, .int bu, .int (nI q), .ref 41, .int (nI pn), .ref 42, .int fl, .int fa, .int fw, .int fr, .int rs, .int ac, .ref 43, .ref 44, .ref 45, .ref 46, .ref 47, .ref 48, .ref 49]))]) _
  refine E_if_eq (tgt := 48) dX7_lean_26 (by decide) (fun c => (b2i_x1 h3 c).elim) (fun _ => ?_)
  refine E_iload_n dX7_lean_29 rfl ?_
  refine E_iconst (v := 1) dX7_lean_30 (by decide) ?_
  refine E_icmp_ne (tgt := 38) dX7_lean_31 (by decide) (fun c => absurd hw c) (fun _ => ?_)
  refine E_iload_n dX7_lean_34 rfl ?_
  refine E_if_eq (tgt := 48) dX7_lean_35 (by decide) (fun c => absurd c ht) (fun _ => ?_)
  refine E_iload dX7_lean_38 rfl ?_
  refine E_iconst (v := 0) dX7_lean_40 (by decide) ?_
  refine E_iconst (v := 1) dX7_lean_41 (by decide) ?_
  refine E_callS (As := [.int p, .int 0, .int 1]) (l' := [.int p, .int 0, .int 1]) (st := []) dX7_lean_42 kX7_48 sX7_in MX7_in rfl rfl (Nat.le_of_ble_eq_true rfl) (FC.use (c_in d _ _ _) rfl (L2 := [(38, .inr (7, [.ref 39, .ref 40, .int bu, .int (nI q), .ref 41, .int (nI pn), .ref 42, .int fl, .int fa, .int fw, .int fr, .int rs, .int ac, .ref 43, .ref 44, .ref 45, .ref 46, .ref 47, .ref 48, .ref 49]))]) rfl) (Nat.le_of_ble_eq_true rfl) (fun _ _ hq9 => E_fgo ?_ hq9)
  show E _ _ 45 [.ref 38, .int n, .int t, .int w, .int p, .null, .null, .null, .null, .null] [.int (b2i (inI p 0 1))] (hov hp [(38, .inr (7, [.ref 39, .ref 40, .int bu, .int (nI q), .ref 41, .int (nI pn), .ref 42, .int fl, .int fa, .int fw, .int fr, .int rs, .int ac, .ref 43, .ref 44, .ref 45, .ref 46, .ref 47, .ref 48, .ref 49]))]) _
  refine E_if_ne (tgt := 52) dX7_lean_45 (by decide) (fun c => (b2i_x0 h4 c).elim) (fun _ => ?_)
  refine E_ldc2 dX7_lean_48 qX7_145 ?_
  exact E_lretf dX7_lean_51 rfl rfl rfl

set_option maxHeartbeats 4000000 in
set_option maxRecDepth 20000 in
theorem m_lean_oP0 (d : Nat) (bu fl fa fw fr rs ac : Int32) (q pn : Nat) (n t w p : Int32) (h1 : inI n 0 8 = true) (h2 : inI t 0 10 = true) (h3 : inI w 0 1 = true) (hw : ¬ w = 1) (h4 : inI p 0 1 = false) : FC YX7_lean (d + 1) [.ref 38, .int n, .int t, .int w, .int p, .null, .null, .null, .null, .null] [(38, .inr (7, [.ref 39, .ref 40, .int bu, .int (nI q), .ref 41, .int (nI pn), .ref 42, .int fl, .int fa, .int fw, .int fr, .int rs, .int ac, .ref 43, .ref 44, .ref 45, .ref 46, .ref 47, .ref 48, .ref 49]))] (some (.long (-1000000000000000002))) [(38, .inr (7, [.ref 39, .ref 40, .int bu, .int (nI q), .ref 41, .int (nI pn), .ref 42, .int fl, .int fa, .int fw, .int fr, .int rs, .int ac, .ref 43, .ref 44, .ref 45, .ref 46, .ref 47, .ref 48, .ref 49]))] := by
  intro hp
  refine E_iload_n dX7_lean_0 rfl ?_
  refine E_iconst (v := 0) dX7_lean_1 (by decide) ?_
  refine E_bipush (v := 8) dX7_lean_2 (by decide) ?_
  refine E_callS (As := [.int n, .int 0, .int 8]) (l' := [.int n, .int 0, .int 8]) (st := []) dX7_lean_4 kX7_48 sX7_in MX7_in rfl rfl (Nat.le_of_ble_eq_true rfl) (FC.use (c_in d _ _ _) rfl (L2 := [(38, .inr (7, [.ref 39, .ref 40, .int bu, .int (nI q), .ref 41, .int (nI pn), .ref 42, .int fl, .int fa, .int fw, .int fr, .int rs, .int ac, .ref 43, .ref 44, .ref 45, .ref 46, .ref 47, .ref 48, .ref 49]))]) rfl) (Nat.le_of_ble_eq_true rfl) (fun _ _ hq9 => E_fgo ?_ hq9)
  show E _ _ 7 [.ref 38, .int n, .int t, .int w, .int p, .null, .null, .null, .null, .null] [.int (b2i (inI n 0 8))] (hov hp [(38, .inr (7, [.ref 39, .ref 40, .int bu, .int (nI q), .ref 41, .int (nI pn), .ref 42, .int fl, .int fa, .int fw, .int fr, .int rs, .int ac, .ref 43, .ref 44, .ref 45, .ref 46, .ref 47, .ref 48, .ref 49]))]) _
  refine E_if_eq (tgt := 48) dX7_lean_7 (by decide) (fun c => (b2i_x1 h1 c).elim) (fun _ => ?_)
  refine E_iload_n dX7_lean_10 rfl ?_
  refine E_iconst (v := 0) dX7_lean_11 (by decide) ?_
  refine E_bipush (v := 10) dX7_lean_12 (by decide) ?_
  refine E_callS (As := [.int t, .int 0, .int 10]) (l' := [.int t, .int 0, .int 10]) (st := []) dX7_lean_14 kX7_48 sX7_in MX7_in rfl rfl (Nat.le_of_ble_eq_true rfl) (FC.use (c_in d _ _ _) rfl (L2 := [(38, .inr (7, [.ref 39, .ref 40, .int bu, .int (nI q), .ref 41, .int (nI pn), .ref 42, .int fl, .int fa, .int fw, .int fr, .int rs, .int ac, .ref 43, .ref 44, .ref 45, .ref 46, .ref 47, .ref 48, .ref 49]))]) rfl) (Nat.le_of_ble_eq_true rfl) (fun _ _ hq9 => E_fgo ?_ hq9)
  show E _ _ 17 [.ref 38, .int n, .int t, .int w, .int p, .null, .null, .null, .null, .null] [.int (b2i (inI t 0 10))] (hov hp [(38, .inr (7, [.ref 39, .ref 40, .int bu, .int (nI q), .ref 41, .int (nI pn), .ref 42, .int fl, .int fa, .int fw, .int fr, .int rs, .int ac, .ref 43, .ref 44, .ref 45, .ref 46, .ref 47, .ref 48, .ref 49]))]) _
  refine E_if_eq (tgt := 48) dX7_lean_17 (by decide) (fun c => (b2i_x1 h2 c).elim) (fun _ => ?_)
  refine E_iload_n dX7_lean_20 rfl ?_
  refine E_iconst (v := 0) dX7_lean_21 (by decide) ?_
  refine E_iconst (v := 1) dX7_lean_22 (by decide) ?_
  refine E_callS (As := [.int w, .int 0, .int 1]) (l' := [.int w, .int 0, .int 1]) (st := []) dX7_lean_23 kX7_48 sX7_in MX7_in rfl rfl (Nat.le_of_ble_eq_true rfl) (FC.use (c_in d _ _ _) rfl (L2 := [(38, .inr (7, [.ref 39, .ref 40, .int bu, .int (nI q), .ref 41, .int (nI pn), .ref 42, .int fl, .int fa, .int fw, .int fr, .int rs, .int ac, .ref 43, .ref 44, .ref 45, .ref 46, .ref 47, .ref 48, .ref 49]))]) rfl) (Nat.le_of_ble_eq_true rfl) (fun _ _ hq9 => E_fgo ?_ hq9)
  show E _ _ 26 [.ref 38, .int n, .int t, .int w, .int p, .null, .null, .null, .null, .null] [.int (b2i (inI w 0 1))] (hov hp [(38, .inr (7, [.ref 39, .ref 40, .int bu, .int (nI q), .ref 41, .int (nI pn), .ref 42, .int fl, .int fa, .int fw, .int fr, .int rs, .int ac, .ref 43, .ref 44, .ref 45, .ref 46, .ref 47, .ref 48, .ref 49]))]) _
  refine E_if_eq (tgt := 48) dX7_lean_26 (by decide) (fun c => (b2i_x1 h3 c).elim) (fun _ => ?_)
  refine E_iload_n dX7_lean_29 rfl ?_
  refine E_iconst (v := 1) dX7_lean_30 (by decide) ?_
  refine E_icmp_ne (tgt := 38) dX7_lean_31 (by decide) (fun _ => ?_) (fun c => absurd c hw)
  refine E_iload dX7_lean_38 rfl ?_
  refine E_iconst (v := 0) dX7_lean_40 (by decide) ?_
  refine E_iconst (v := 1) dX7_lean_41 (by decide) ?_
  refine E_callS (As := [.int p, .int 0, .int 1]) (l' := [.int p, .int 0, .int 1]) (st := []) dX7_lean_42 kX7_48 sX7_in MX7_in rfl rfl (Nat.le_of_ble_eq_true rfl) (FC.use (c_in d _ _ _) rfl (L2 := [(38, .inr (7, [.ref 39, .ref 40, .int bu, .int (nI q), .ref 41, .int (nI pn), .ref 42, .int fl, .int fa, .int fw, .int fr, .int rs, .int ac, .ref 43, .ref 44, .ref 45, .ref 46, .ref 47, .ref 48, .ref 49]))]) rfl) (Nat.le_of_ble_eq_true rfl) (fun _ _ hq9 => E_fgo ?_ hq9)
  show E _ _ 45 [.ref 38, .int n, .int t, .int w, .int p, .null, .null, .null, .null, .null] [.int (b2i (inI p 0 1))] (hov hp [(38, .inr (7, [.ref 39, .ref 40, .int bu, .int (nI q), .ref 41, .int (nI pn), .ref 42, .int fl, .int fa, .int fw, .int fr, .int rs, .int ac, .ref 43, .ref 44, .ref 45, .ref 46, .ref 47, .ref 48, .ref 49]))]) _
  refine E_if_ne (tgt := 52) dX7_lean_45 (by decide) (fun c => (b2i_x0 h4 c).elim) (fun _ => ?_)
  refine E_ldc2 dX7_lean_48 qX7_145 ?_
  exact E_lretf dX7_lean_51 rfl rfl rfl

set_option maxHeartbeats 4000000 in
set_option maxRecDepth 20000 in
theorem m_lean_10 (d : Nat) (bu fl fa fw fr rs ac : Int32) (q pn : Nat) (n t : Nat) (h0 : 1 ≤ t) (ht : t ≤ 10) (h1 : inI (nI n) 0 8 = true) (h2 : inI (nI t) 0 10 = true) : FC YX7_lean (d + 1) [.ref 38, .int (nI n), .int (nI t), .int 1, .int 0, .null, .null, .null, .null, .null] [(38, .inr (7, [.ref 39, .ref 40, .int bu, .int (nI q), .ref 41, .int (nI pn), .ref 42, .int fl, .int fa, .int fw, .int fr, .int rs, .int ac, .ref 43, .ref 44, .ref 45, .ref 46, .ref 47, .ref 48, .ref 49]))] (some (.long (ilt 100 (Int32.toInt64 (nI (t * t))) 0))) [(38, .inr (7, [.ref 39, .ref 40, .int bu, .int (nI q), .ref 41, .int (nI pn), .ref 42, .int fl, .int fa, .int fw, .int fr, .int rs, .int ac, .ref 43, .ref 44, .ref 45, .ref 46, .ref 47, .ref 48, .ref 49]))] := by
  intro hp
  refine E_iload_n dX7_lean_0 rfl ?_
  refine E_iconst (v := 0) dX7_lean_1 (by decide) ?_
  refine E_bipush (v := 8) dX7_lean_2 (by decide) ?_
  refine E_callS (As := [.int (nI n), .int 0, .int 8]) (l' := [.int (nI n), .int 0, .int 8]) (st := []) dX7_lean_4 kX7_48 sX7_in MX7_in rfl rfl (Nat.le_of_ble_eq_true rfl) (FC.use (c_in d _ _ _) rfl (L2 := [(38, .inr (7, [.ref 39, .ref 40, .int bu, .int (nI q), .ref 41, .int (nI pn), .ref 42, .int fl, .int fa, .int fw, .int fr, .int rs, .int ac, .ref 43, .ref 44, .ref 45, .ref 46, .ref 47, .ref 48, .ref 49]))]) rfl) (Nat.le_of_ble_eq_true rfl) (fun _ _ hq9 => E_fgo ?_ hq9)
  show E _ _ 7 [.ref 38, .int (nI n), .int (nI t), .int 1, .int 0, .null, .null, .null, .null, .null] [.int (b2i (inI (nI n) 0 8))] (hov hp [(38, .inr (7, [.ref 39, .ref 40, .int bu, .int (nI q), .ref 41, .int (nI pn), .ref 42, .int fl, .int fa, .int fw, .int fr, .int rs, .int ac, .ref 43, .ref 44, .ref 45, .ref 46, .ref 47, .ref 48, .ref 49]))]) _
  refine E_if_eq (tgt := 48) dX7_lean_7 (by decide) (fun c => (b2i_x1 h1 c).elim) (fun _ => ?_)
  refine E_iload_n dX7_lean_10 rfl ?_
  refine E_iconst (v := 0) dX7_lean_11 (by decide) ?_
  refine E_bipush (v := 10) dX7_lean_12 (by decide) ?_
  refine E_callS (As := [.int (nI t), .int 0, .int 10]) (l' := [.int (nI t), .int 0, .int 10]) (st := []) dX7_lean_14 kX7_48 sX7_in MX7_in rfl rfl (Nat.le_of_ble_eq_true rfl) (FC.use (c_in d _ _ _) rfl (L2 := [(38, .inr (7, [.ref 39, .ref 40, .int bu, .int (nI q), .ref 41, .int (nI pn), .ref 42, .int fl, .int fa, .int fw, .int fr, .int rs, .int ac, .ref 43, .ref 44, .ref 45, .ref 46, .ref 47, .ref 48, .ref 49]))]) rfl) (Nat.le_of_ble_eq_true rfl) (fun _ _ hq9 => E_fgo ?_ hq9)
  show E _ _ 17 [.ref 38, .int (nI n), .int (nI t), .int 1, .int 0, .null, .null, .null, .null, .null] [.int (b2i (inI (nI t) 0 10))] (hov hp [(38, .inr (7, [.ref 39, .ref 40, .int bu, .int (nI q), .ref 41, .int (nI pn), .ref 42, .int fl, .int fa, .int fw, .int fr, .int rs, .int ac, .ref 43, .ref 44, .ref 45, .ref 46, .ref 47, .ref 48, .ref 49]))]) _
  refine E_if_eq (tgt := 48) dX7_lean_17 (by decide) (fun c => (b2i_x1 h2 c).elim) (fun _ => ?_)
  refine E_iload_n dX7_lean_20 rfl ?_
  refine E_iconst (v := 0) dX7_lean_21 (by decide) ?_
  refine E_iconst (v := 1) dX7_lean_22 (by decide) ?_
  refine E_callS (As := [.int 1, .int 0, .int 1]) (l' := [.int 1, .int 0, .int 1]) (st := []) dX7_lean_23 kX7_48 sX7_in MX7_in rfl rfl (Nat.le_of_ble_eq_true rfl) (FC.use (c_in d _ _ _) rfl (L2 := [(38, .inr (7, [.ref 39, .ref 40, .int bu, .int (nI q), .ref 41, .int (nI pn), .ref 42, .int fl, .int fa, .int fw, .int fr, .int rs, .int ac, .ref 43, .ref 44, .ref 45, .ref 46, .ref 47, .ref 48, .ref 49]))]) rfl) (Nat.le_of_ble_eq_true rfl) (fun _ _ hq9 => E_fgo ?_ hq9)
  show E _ _ 26 [.ref 38, .int (nI n), .int (nI t), .int 1, .int 0, .null, .null, .null, .null, .null] [.int (b2i (inI 1 0 1))] (hov hp [(38, .inr (7, [.ref 39, .ref 40, .int bu, .int (nI q), .ref 41, .int (nI pn), .ref 42, .int fl, .int fa, .int fw, .int fr, .int rs, .int ac, .ref 43, .ref 44, .ref 45, .ref 46, .ref 47, .ref 48, .ref 49]))]) _
  refine E_if_eq (tgt := 48) dX7_lean_26 (by decide) (fun c => (b2i_x1 (by decide) c).elim) (fun _ => ?_)
  refine E_iload_n dX7_lean_29 rfl ?_
  refine E_iconst (v := 1) dX7_lean_30 (by decide) ?_
  refine E_icmp_ne (tgt := 38) dX7_lean_31 (by decide) (fun c => by first | exact absurd c (by decide) | exact absurd (by decide) c) (fun _ => ?_)
  refine E_iload_n dX7_lean_34 rfl ?_
  refine E_if_eq (tgt := 48) dX7_lean_35 (by decide) (fun c => absurd c (fun e => by have := nI_inj (b := 0) (by omega) (by decide) e; omega)) (fun _ => ?_)
  refine E_iload dX7_lean_38 rfl ?_
  refine E_iconst (v := 0) dX7_lean_40 (by decide) ?_
  refine E_iconst (v := 1) dX7_lean_41 (by decide) ?_
  refine E_callS (As := [.int 0, .int 0, .int 1]) (l' := [.int 0, .int 0, .int 1]) (st := []) dX7_lean_42 kX7_48 sX7_in MX7_in rfl rfl (Nat.le_of_ble_eq_true rfl) (FC.use (c_in d _ _ _) rfl (L2 := [(38, .inr (7, [.ref 39, .ref 40, .int bu, .int (nI q), .ref 41, .int (nI pn), .ref 42, .int fl, .int fa, .int fw, .int fr, .int rs, .int ac, .ref 43, .ref 44, .ref 45, .ref 46, .ref 47, .ref 48, .ref 49]))]) rfl) (Nat.le_of_ble_eq_true rfl) (fun _ _ hq9 => E_fgo ?_ hq9)
  show E _ _ 45 [.ref 38, .int (nI n), .int (nI t), .int 1, .int 0, .null, .null, .null, .null, .null] [.int (b2i (inI 0 0 1))] (hov hp [(38, .inr (7, [.ref 39, .ref 40, .int bu, .int (nI q), .ref 41, .int (nI pn), .ref 42, .int fl, .int fa, .int fw, .int fr, .int rs, .int ac, .ref 43, .ref 44, .ref 45, .ref 46, .ref 47, .ref 48, .ref 49]))]) _
  refine E_if_ne (tgt := 52) dX7_lean_45 (by decide) (fun _ => ?_) (fun c => (b2i_x1 (by decide) c).elim)
  refine E_iload_n dX7_lean_52 rfl ?_
  refine E_iconst (v := 1) dX7_lean_53 (by decide) ?_
  refine E_icmp_ne (tgt := 70) dX7_lean_54 (by decide) (fun c => by first | exact absurd c (by decide) | exact absurd (by decide) c) (fun _ => ?_)
  refine E_ldc2 dX7_lean_57 qX7_126 ?_
  refine E_iload_n dX7_lean_60 rfl ?_
  refine E_iload_n dX7_lean_61 rfl ?_
  refine E_imul dX7_lean_62 ?_
  refine E_eqi (y := nI (t * t)) (pk_mul _ _) ?_
  refine E_i2l dX7_lean_63 ?_
  refine E_iload dX7_lean_64 rfl ?_
  refine E_callS (As := [.long 100, .long (Int32.toInt64 (nI (t * t))), .int 0]) (l' := [.long 100, .null, .long (Int32.toInt64 (nI (t * t))), .null, .int 0, .null, .null, .null, .null, .null, .null]) (st := []) dX7_lean_66 kX7_147 sX7_lowest MX7_lowest rfl rfl (Nat.le_of_ble_eq_true rfl) (FC.use (m_lowest_0 d _ _ (lf_1 t (by omega) h0)) rfl (L2 := [(38, .inr (7, [.ref 39, .ref 40, .int bu, .int (nI q), .ref 41, .int (nI pn), .ref 42, .int fl, .int fa, .int fw, .int fr, .int rs, .int ac, .ref 43, .ref 44, .ref 45, .ref 46, .ref 47, .ref 48, .ref 49]))]) rfl) (Nat.le_of_ble_eq_true rfl) (fun _ _ hq9 => E_fgo ?_ hq9)
  show E _ _ 69 [.ref 38, .int (nI n), .int (nI t), .int 1, .int 0, .null, .null, .null, .null, .null] [.long (ilt 100 (Int32.toInt64 (nI (t * t))) 0)] (hov hp [(38, .inr (7, [.ref 39, .ref 40, .int bu, .int (nI q), .ref 41, .int (nI pn), .ref 42, .int fl, .int fa, .int fw, .int fr, .int rs, .int ac, .ref 43, .ref 44, .ref 45, .ref 46, .ref 47, .ref 48, .ref 49]))]) _
  exact E_lretf dX7_lean_69 rfl rfl rfl

set_option maxHeartbeats 4000000 in
set_option maxRecDepth 20000 in
theorem m_lean_00 (d : Nat) (bu fl fa fw fr rs ac : Int32) (q pn : Nat) (n t : Nat) (hn : n ≤ 8) (ht : t ≤ 10) (h1 : inI (nI n) 0 8 = true) (h2 : inI (nI t) 0 10 = true) : FC YX7_lean (d + 1) [.ref 38, .int (nI n), .int (nI t), .int 0, .int 0, .null, .null, .null, .null, .null] [(38, .inr (7, [.ref 39, .ref 40, .int bu, .int (nI q), .ref 41, .int (nI pn), .ref 42, .int fl, .int fa, .int fw, .int fr, .int rs, .int ac, .ref 43, .ref 44, .ref 45, .ref 46, .ref 47, .ref 48, .ref 49]))] (some (.long (ilt (pwL (Int32.toInt64 (100 - nI (t * t))) n) (pwL 100 n) 0))) [(38, .inr (7, [.ref 39, .ref 40, .int bu, .int (nI q), .ref 41, .int (nI pn), .ref 42, .int fl, .int fa, .int fw, .int fr, .int rs, .int ac, .ref 43, .ref 44, .ref 45, .ref 46, .ref 47, .ref 48, .ref 49]))] := by
  intro hp
  refine E_iload_n dX7_lean_0 rfl ?_
  refine E_iconst (v := 0) dX7_lean_1 (by decide) ?_
  refine E_bipush (v := 8) dX7_lean_2 (by decide) ?_
  refine E_callS (As := [.int (nI n), .int 0, .int 8]) (l' := [.int (nI n), .int 0, .int 8]) (st := []) dX7_lean_4 kX7_48 sX7_in MX7_in rfl rfl (Nat.le_of_ble_eq_true rfl) (FC.use (c_in d _ _ _) rfl (L2 := [(38, .inr (7, [.ref 39, .ref 40, .int bu, .int (nI q), .ref 41, .int (nI pn), .ref 42, .int fl, .int fa, .int fw, .int fr, .int rs, .int ac, .ref 43, .ref 44, .ref 45, .ref 46, .ref 47, .ref 48, .ref 49]))]) rfl) (Nat.le_of_ble_eq_true rfl) (fun _ _ hq9 => E_fgo ?_ hq9)
  show E _ _ 7 [.ref 38, .int (nI n), .int (nI t), .int 0, .int 0, .null, .null, .null, .null, .null] [.int (b2i (inI (nI n) 0 8))] (hov hp [(38, .inr (7, [.ref 39, .ref 40, .int bu, .int (nI q), .ref 41, .int (nI pn), .ref 42, .int fl, .int fa, .int fw, .int fr, .int rs, .int ac, .ref 43, .ref 44, .ref 45, .ref 46, .ref 47, .ref 48, .ref 49]))]) _
  refine E_if_eq (tgt := 48) dX7_lean_7 (by decide) (fun c => (b2i_x1 h1 c).elim) (fun _ => ?_)
  refine E_iload_n dX7_lean_10 rfl ?_
  refine E_iconst (v := 0) dX7_lean_11 (by decide) ?_
  refine E_bipush (v := 10) dX7_lean_12 (by decide) ?_
  refine E_callS (As := [.int (nI t), .int 0, .int 10]) (l' := [.int (nI t), .int 0, .int 10]) (st := []) dX7_lean_14 kX7_48 sX7_in MX7_in rfl rfl (Nat.le_of_ble_eq_true rfl) (FC.use (c_in d _ _ _) rfl (L2 := [(38, .inr (7, [.ref 39, .ref 40, .int bu, .int (nI q), .ref 41, .int (nI pn), .ref 42, .int fl, .int fa, .int fw, .int fr, .int rs, .int ac, .ref 43, .ref 44, .ref 45, .ref 46, .ref 47, .ref 48, .ref 49]))]) rfl) (Nat.le_of_ble_eq_true rfl) (fun _ _ hq9 => E_fgo ?_ hq9)
  show E _ _ 17 [.ref 38, .int (nI n), .int (nI t), .int 0, .int 0, .null, .null, .null, .null, .null] [.int (b2i (inI (nI t) 0 10))] (hov hp [(38, .inr (7, [.ref 39, .ref 40, .int bu, .int (nI q), .ref 41, .int (nI pn), .ref 42, .int fl, .int fa, .int fw, .int fr, .int rs, .int ac, .ref 43, .ref 44, .ref 45, .ref 46, .ref 47, .ref 48, .ref 49]))]) _
  refine E_if_eq (tgt := 48) dX7_lean_17 (by decide) (fun c => (b2i_x1 h2 c).elim) (fun _ => ?_)
  refine E_iload_n dX7_lean_20 rfl ?_
  refine E_iconst (v := 0) dX7_lean_21 (by decide) ?_
  refine E_iconst (v := 1) dX7_lean_22 (by decide) ?_
  refine E_callS (As := [.int 0, .int 0, .int 1]) (l' := [.int 0, .int 0, .int 1]) (st := []) dX7_lean_23 kX7_48 sX7_in MX7_in rfl rfl (Nat.le_of_ble_eq_true rfl) (FC.use (c_in d _ _ _) rfl (L2 := [(38, .inr (7, [.ref 39, .ref 40, .int bu, .int (nI q), .ref 41, .int (nI pn), .ref 42, .int fl, .int fa, .int fw, .int fr, .int rs, .int ac, .ref 43, .ref 44, .ref 45, .ref 46, .ref 47, .ref 48, .ref 49]))]) rfl) (Nat.le_of_ble_eq_true rfl) (fun _ _ hq9 => E_fgo ?_ hq9)
  show E _ _ 26 [.ref 38, .int (nI n), .int (nI t), .int 0, .int 0, .null, .null, .null, .null, .null] [.int (b2i (inI 0 0 1))] (hov hp [(38, .inr (7, [.ref 39, .ref 40, .int bu, .int (nI q), .ref 41, .int (nI pn), .ref 42, .int fl, .int fa, .int fw, .int fr, .int rs, .int ac, .ref 43, .ref 44, .ref 45, .ref 46, .ref 47, .ref 48, .ref 49]))]) _
  refine E_if_eq (tgt := 48) dX7_lean_26 (by decide) (fun c => (b2i_x1 (by decide) c).elim) (fun _ => ?_)
  refine E_iload_n dX7_lean_29 rfl ?_
  refine E_iconst (v := 1) dX7_lean_30 (by decide) ?_
  refine E_icmp_ne (tgt := 38) dX7_lean_31 (by decide) (fun _ => ?_) (fun c => by first | exact absurd c (by decide) | exact absurd (by decide) c)
  refine E_iload dX7_lean_38 rfl ?_
  refine E_iconst (v := 0) dX7_lean_40 (by decide) ?_
  refine E_iconst (v := 1) dX7_lean_41 (by decide) ?_
  refine E_callS (As := [.int 0, .int 0, .int 1]) (l' := [.int 0, .int 0, .int 1]) (st := []) dX7_lean_42 kX7_48 sX7_in MX7_in rfl rfl (Nat.le_of_ble_eq_true rfl) (FC.use (c_in d _ _ _) rfl (L2 := [(38, .inr (7, [.ref 39, .ref 40, .int bu, .int (nI q), .ref 41, .int (nI pn), .ref 42, .int fl, .int fa, .int fw, .int fr, .int rs, .int ac, .ref 43, .ref 44, .ref 45, .ref 46, .ref 47, .ref 48, .ref 49]))]) rfl) (Nat.le_of_ble_eq_true rfl) (fun _ _ hq9 => E_fgo ?_ hq9)
  show E _ _ 45 [.ref 38, .int (nI n), .int (nI t), .int 0, .int 0, .null, .null, .null, .null, .null] [.int (b2i (inI 0 0 1))] (hov hp [(38, .inr (7, [.ref 39, .ref 40, .int bu, .int (nI q), .ref 41, .int (nI pn), .ref 42, .int fl, .int fa, .int fw, .int fr, .int rs, .int ac, .ref 43, .ref 44, .ref 45, .ref 46, .ref 47, .ref 48, .ref 49]))]) _
  refine E_if_ne (tgt := 52) dX7_lean_45 (by decide) (fun _ => ?_) (fun c => (b2i_x1 (by decide) c).elim)
  refine E_iload_n dX7_lean_52 rfl ?_
  refine E_iconst (v := 1) dX7_lean_53 (by decide) ?_
  refine E_icmp_ne (tgt := 70) dX7_lean_54 (by decide) (fun _ => ?_) (fun c => by first | exact absurd c (by decide) | exact absurd (by decide) c)
  refine E_lconst (v := 1) dX7_lean_70 (by decide) ?_
  refine E_lstore (l2 := [.ref 38, .int (nI n), .int (nI t), .int 0, .int 0, .long 1, .null, .null, .null, .null]) dX7_lean_71 (by decide) rfl ?_
  refine E_lconst (v := 1) dX7_lean_73 (by decide) ?_
  refine E_lstore (l2 := [.ref 38, .int (nI n), .int (nI t), .int 0, .int 0, .long 1, .null, .long 1, .null, .null]) dX7_lean_74 (by decide) rfl ?_
  refine E_iconst (v := 0) dX7_lean_76 (by decide) ?_
  refine E_istore (l2 := [.ref 38, .int (nI n), .int (nI t), .int 0, .int 0, .long 1, .null, .long 1, .null, .int 0]) dX7_lean_77 (by decide) rfl ?_
  have L : ∀ i, i ≤ n → E YX7_lean (d + 1) 79 [.ref 38, .int (nI n), .int (nI t), .int 0, .int 0, .long (pwL (Int32.toInt64 (100 - nI (t * t))) i), .null, .long (pwL 100 i), .null, .int (nI i)] [] (hov hp [(38, .inr (7, [.ref 39, .ref 40, .int bu, .int (nI q), .ref 41, .int (nI pn), .ref 42, .int fl, .int fa, .int fw, .int fr, .int rs, .int ac, .ref 43, .ref 44, .ref 45, .ref 46, .ref 47, .ref 48, .ref 49]))]) (fun v h' => v = some (.long (ilt (pwL (Int32.toInt64 (100 - nI (t * t))) n) (pwL 100 n) 0)) ∧ h' = hov hp [(38, .inr (7, [.ref 39, .ref 40, .int bu, .int (nI q), .ref 41, .int (nI pn), .ref 42, .int fl, .int fa, .int fw, .int fr, .int rs, .int ac, .ref 43, .ref 44, .ref 45, .ref 46, .ref 47, .ref 48, .ref 49]))]) := by
    refine down n ?_ ?_
    · refine E_iload dX7_lean_79 rfl ?_
      refine E_iload_n dX7_lean_81 rfl ?_
      refine E_icmp_ge (tgt := 111) dX7_lean_82 (by decide) (fun _ => ?_) (fun c => absurd (nI_le (Nat.le_refl _) (by omega)) c)
      refine E_lload dX7_lean_111 rfl ?_
      refine E_lload dX7_lean_113 rfl ?_
      refine E_iload dX7_lean_115 rfl ?_
      refine E_callS (As := [.long (pwL (Int32.toInt64 (100 - nI (t * t))) n), .long (pwL 100 n), .int 0]) (l' := [.long (pwL (Int32.toInt64 (100 - nI (t * t))) n), .null, .long (pwL 100 n), .null, .int 0, .null, .null, .null, .null, .null, .null]) (st := []) dX7_lean_117 kX7_147 sX7_lowest MX7_lowest rfl rfl (Nat.le_of_ble_eq_true rfl) (FC.use (m_lowest_0 d _ _ (lf_0 n (by omega) t (by omega))) rfl (L2 := [(38, .inr (7, [.ref 39, .ref 40, .int bu, .int (nI q), .ref 41, .int (nI pn), .ref 42, .int fl, .int fa, .int fw, .int fr, .int rs, .int ac, .ref 43, .ref 44, .ref 45, .ref 46, .ref 47, .ref 48, .ref 49]))]) rfl) (Nat.le_of_ble_eq_true rfl) (fun _ _ hq9 => E_fgo ?_ hq9)
      show E _ _ 120 [.ref 38, .int (nI n), .int (nI t), .int 0, .int 0, .long (pwL (Int32.toInt64 (100 - nI (t * t))) n), .null, .long (pwL 100 n), .null, .int (nI n)] [.long (ilt (pwL (Int32.toInt64 (100 - nI (t * t))) n) (pwL 100 n) 0)] (hov hp [(38, .inr (7, [.ref 39, .ref 40, .int bu, .int (nI q), .ref 41, .int (nI pn), .ref 42, .int fl, .int fa, .int fw, .int fr, .int rs, .int ac, .ref 43, .ref 44, .ref 45, .ref 46, .ref 47, .ref 48, .ref 49]))]) _
      exact E_lretf dX7_lean_120 rfl rfl rfl
    · intro i hi ih
      refine E_iload dX7_lean_79 rfl ?_
      refine E_iload_n dX7_lean_81 rfl ?_
      refine E_icmp_ge (tgt := 111) dX7_lean_82 (by decide) (fun c => absurd c (nI_ge hi (by omega))) (fun _ => ?_)
      refine E_lload dX7_lean_85 rfl ?_
      refine E_bipush (v := 100) dX7_lean_87 (by decide) ?_
      refine E_iload_n dX7_lean_89 rfl ?_
      refine E_iload_n dX7_lean_90 rfl ?_
      refine E_imul dX7_lean_91 ?_
      refine E_eqi (y := nI (t * t)) (pk_mul _ _) ?_
      refine E_isub dX7_lean_92 ?_
      refine E_i2l dX7_lean_93 ?_
      refine E_lmul dX7_lean_94 ?_
      refine E_lstore (l2 := [.ref 38, .int (nI n), .int (nI t), .int 0, .int 0, .long ((pwL (Int32.toInt64 (100 - nI (t * t))) i) * (Int32.toInt64 (100 - (nI (t * t))))), .null, .long (pwL 100 i), .null, .int (nI i)]) dX7_lean_95 (by decide) rfl ?_
      refine E_lload dX7_lean_97 rfl ?_
      refine E_ldc2 dX7_lean_99 qX7_126 ?_
      refine E_lmul dX7_lean_102 ?_
      refine E_lstore (l2 := [.ref 38, .int (nI n), .int (nI t), .int 0, .int 0, .long ((pwL (Int32.toInt64 (100 - nI (t * t))) i) * (Int32.toInt64 (100 - (nI (t * t))))), .null, .long ((pwL 100 i) * 100), .null, .int (nI i)]) dX7_lean_103 (by decide) rfl ?_
      refine E_iinc (y := nI (i + 1)) (l2 := [.ref 38, .int (nI n), .int (nI t), .int 0, .int 0, .long ((pwL (Int32.toInt64 (100 - nI (t * t))) i) * (Int32.toInt64 (100 - (nI (t * t))))), .null, .long ((pwL 100 i) * 100), .null, .int (nI (i + 1))]) dX7_lean_105 rfl (nI_1 _) (by decide) rfl ?_
      refine E_goto (tgt := 79) dX7_lean_108 (by decide) ?_
      exact ih
  exact L 0 (by omega)

set_option maxHeartbeats 4000000 in
set_option maxRecDepth 20000 in
theorem m_lean_11 (d : Nat) (bu fl fa fw fr rs ac : Int32) (q pn : Nat) (n t : Nat) (h0 : 1 ≤ t) (ht : t ≤ 10) (h1 : inI (nI n) 0 8 = true) (h2 : inI (nI t) 0 10 = true) : FC YX7_lean (d + 1) [.ref 38, .int (nI n), .int (nI t), .int 1, .int 1, .null, .null, .null, .null, .null] [(38, .inr (7, [.ref 39, .ref 40, .int bu, .int (nI q), .ref 41, .int (nI pn), .ref 42, .int fl, .int fa, .int fw, .int fr, .int rs, .int ac, .ref 43, .ref 44, .ref 45, .ref 46, .ref 47, .ref 48, .ref 49]))] (some (.long (ilt 100 (Int32.toInt64 (nI (t * t))) 1))) [(38, .inr (7, [.ref 39, .ref 40, .int bu, .int (nI q), .ref 41, .int (nI pn), .ref 42, .int fl, .int fa, .int fw, .int fr, .int rs, .int ac, .ref 43, .ref 44, .ref 45, .ref 46, .ref 47, .ref 48, .ref 49]))] := by
  intro hp
  refine E_iload_n dX7_lean_0 rfl ?_
  refine E_iconst (v := 0) dX7_lean_1 (by decide) ?_
  refine E_bipush (v := 8) dX7_lean_2 (by decide) ?_
  refine E_callS (As := [.int (nI n), .int 0, .int 8]) (l' := [.int (nI n), .int 0, .int 8]) (st := []) dX7_lean_4 kX7_48 sX7_in MX7_in rfl rfl (Nat.le_of_ble_eq_true rfl) (FC.use (c_in d _ _ _) rfl (L2 := [(38, .inr (7, [.ref 39, .ref 40, .int bu, .int (nI q), .ref 41, .int (nI pn), .ref 42, .int fl, .int fa, .int fw, .int fr, .int rs, .int ac, .ref 43, .ref 44, .ref 45, .ref 46, .ref 47, .ref 48, .ref 49]))]) rfl) (Nat.le_of_ble_eq_true rfl) (fun _ _ hq9 => E_fgo ?_ hq9)
  show E _ _ 7 [.ref 38, .int (nI n), .int (nI t), .int 1, .int 1, .null, .null, .null, .null, .null] [.int (b2i (inI (nI n) 0 8))] (hov hp [(38, .inr (7, [.ref 39, .ref 40, .int bu, .int (nI q), .ref 41, .int (nI pn), .ref 42, .int fl, .int fa, .int fw, .int fr, .int rs, .int ac, .ref 43, .ref 44, .ref 45, .ref 46, .ref 47, .ref 48, .ref 49]))]) _
  refine E_if_eq (tgt := 48) dX7_lean_7 (by decide) (fun c => (b2i_x1 h1 c).elim) (fun _ => ?_)
  refine E_iload_n dX7_lean_10 rfl ?_
  refine E_iconst (v := 0) dX7_lean_11 (by decide) ?_
  refine E_bipush (v := 10) dX7_lean_12 (by decide) ?_
  refine E_callS (As := [.int (nI t), .int 0, .int 10]) (l' := [.int (nI t), .int 0, .int 10]) (st := []) dX7_lean_14 kX7_48 sX7_in MX7_in rfl rfl (Nat.le_of_ble_eq_true rfl) (FC.use (c_in d _ _ _) rfl (L2 := [(38, .inr (7, [.ref 39, .ref 40, .int bu, .int (nI q), .ref 41, .int (nI pn), .ref 42, .int fl, .int fa, .int fw, .int fr, .int rs, .int ac, .ref 43, .ref 44, .ref 45, .ref 46, .ref 47, .ref 48, .ref 49]))]) rfl) (Nat.le_of_ble_eq_true rfl) (fun _ _ hq9 => E_fgo ?_ hq9)
  show E _ _ 17 [.ref 38, .int (nI n), .int (nI t), .int 1, .int 1, .null, .null, .null, .null, .null] [.int (b2i (inI (nI t) 0 10))] (hov hp [(38, .inr (7, [.ref 39, .ref 40, .int bu, .int (nI q), .ref 41, .int (nI pn), .ref 42, .int fl, .int fa, .int fw, .int fr, .int rs, .int ac, .ref 43, .ref 44, .ref 45, .ref 46, .ref 47, .ref 48, .ref 49]))]) _
  refine E_if_eq (tgt := 48) dX7_lean_17 (by decide) (fun c => (b2i_x1 h2 c).elim) (fun _ => ?_)
  refine E_iload_n dX7_lean_20 rfl ?_
  refine E_iconst (v := 0) dX7_lean_21 (by decide) ?_
  refine E_iconst (v := 1) dX7_lean_22 (by decide) ?_
  refine E_callS (As := [.int 1, .int 0, .int 1]) (l' := [.int 1, .int 0, .int 1]) (st := []) dX7_lean_23 kX7_48 sX7_in MX7_in rfl rfl (Nat.le_of_ble_eq_true rfl) (FC.use (c_in d _ _ _) rfl (L2 := [(38, .inr (7, [.ref 39, .ref 40, .int bu, .int (nI q), .ref 41, .int (nI pn), .ref 42, .int fl, .int fa, .int fw, .int fr, .int rs, .int ac, .ref 43, .ref 44, .ref 45, .ref 46, .ref 47, .ref 48, .ref 49]))]) rfl) (Nat.le_of_ble_eq_true rfl) (fun _ _ hq9 => E_fgo ?_ hq9)
  show E _ _ 26 [.ref 38, .int (nI n), .int (nI t), .int 1, .int 1, .null, .null, .null, .null, .null] [.int (b2i (inI 1 0 1))] (hov hp [(38, .inr (7, [.ref 39, .ref 40, .int bu, .int (nI q), .ref 41, .int (nI pn), .ref 42, .int fl, .int fa, .int fw, .int fr, .int rs, .int ac, .ref 43, .ref 44, .ref 45, .ref 46, .ref 47, .ref 48, .ref 49]))]) _
  refine E_if_eq (tgt := 48) dX7_lean_26 (by decide) (fun c => (b2i_x1 (by decide) c).elim) (fun _ => ?_)
  refine E_iload_n dX7_lean_29 rfl ?_
  refine E_iconst (v := 1) dX7_lean_30 (by decide) ?_
  refine E_icmp_ne (tgt := 38) dX7_lean_31 (by decide) (fun c => by first | exact absurd c (by decide) | exact absurd (by decide) c) (fun _ => ?_)
  refine E_iload_n dX7_lean_34 rfl ?_
  refine E_if_eq (tgt := 48) dX7_lean_35 (by decide) (fun c => absurd c (fun e => by have := nI_inj (b := 0) (by omega) (by decide) e; omega)) (fun _ => ?_)
  refine E_iload dX7_lean_38 rfl ?_
  refine E_iconst (v := 0) dX7_lean_40 (by decide) ?_
  refine E_iconst (v := 1) dX7_lean_41 (by decide) ?_
  refine E_callS (As := [.int 1, .int 0, .int 1]) (l' := [.int 1, .int 0, .int 1]) (st := []) dX7_lean_42 kX7_48 sX7_in MX7_in rfl rfl (Nat.le_of_ble_eq_true rfl) (FC.use (c_in d _ _ _) rfl (L2 := [(38, .inr (7, [.ref 39, .ref 40, .int bu, .int (nI q), .ref 41, .int (nI pn), .ref 42, .int fl, .int fa, .int fw, .int fr, .int rs, .int ac, .ref 43, .ref 44, .ref 45, .ref 46, .ref 47, .ref 48, .ref 49]))]) rfl) (Nat.le_of_ble_eq_true rfl) (fun _ _ hq9 => E_fgo ?_ hq9)
  show E _ _ 45 [.ref 38, .int (nI n), .int (nI t), .int 1, .int 1, .null, .null, .null, .null, .null] [.int (b2i (inI 1 0 1))] (hov hp [(38, .inr (7, [.ref 39, .ref 40, .int bu, .int (nI q), .ref 41, .int (nI pn), .ref 42, .int fl, .int fa, .int fw, .int fr, .int rs, .int ac, .ref 43, .ref 44, .ref 45, .ref 46, .ref 47, .ref 48, .ref 49]))]) _
  refine E_if_ne (tgt := 52) dX7_lean_45 (by decide) (fun _ => ?_) (fun c => (b2i_x1 (by decide) c).elim)
  refine E_iload_n dX7_lean_52 rfl ?_
  refine E_iconst (v := 1) dX7_lean_53 (by decide) ?_
  refine E_icmp_ne (tgt := 70) dX7_lean_54 (by decide) (fun c => by first | exact absurd c (by decide) | exact absurd (by decide) c) (fun _ => ?_)
  refine E_ldc2 dX7_lean_57 qX7_126 ?_
  refine E_iload_n dX7_lean_60 rfl ?_
  refine E_iload_n dX7_lean_61 rfl ?_
  refine E_imul dX7_lean_62 ?_
  refine E_eqi (y := nI (t * t)) (pk_mul _ _) ?_
  refine E_i2l dX7_lean_63 ?_
  refine E_iload dX7_lean_64 rfl ?_
  refine E_callS (As := [.long 100, .long (Int32.toInt64 (nI (t * t))), .int 1]) (l' := [.long 100, .null, .long (Int32.toInt64 (nI (t * t))), .null, .int 1, .null, .null, .null, .null, .null, .null]) (st := []) dX7_lean_66 kX7_147 sX7_lowest MX7_lowest rfl rfl (Nat.le_of_ble_eq_true rfl) (FC.use (m_lowest_1 d _ _ (lf_1 t (by omega) h0)) rfl (L2 := [(38, .inr (7, [.ref 39, .ref 40, .int bu, .int (nI q), .ref 41, .int (nI pn), .ref 42, .int fl, .int fa, .int fw, .int fr, .int rs, .int ac, .ref 43, .ref 44, .ref 45, .ref 46, .ref 47, .ref 48, .ref 49]))]) rfl) (Nat.le_of_ble_eq_true rfl) (fun _ _ hq9 => E_fgo ?_ hq9)
  show E _ _ 69 [.ref 38, .int (nI n), .int (nI t), .int 1, .int 1, .null, .null, .null, .null, .null] [.long (ilt 100 (Int32.toInt64 (nI (t * t))) 1)] (hov hp [(38, .inr (7, [.ref 39, .ref 40, .int bu, .int (nI q), .ref 41, .int (nI pn), .ref 42, .int fl, .int fa, .int fw, .int fr, .int rs, .int ac, .ref 43, .ref 44, .ref 45, .ref 46, .ref 47, .ref 48, .ref 49]))]) _
  exact E_lretf dX7_lean_69 rfl rfl rfl

set_option maxHeartbeats 4000000 in
set_option maxRecDepth 20000 in
theorem m_lean_01 (d : Nat) (bu fl fa fw fr rs ac : Int32) (q pn : Nat) (n t : Nat) (hn : n ≤ 8) (ht : t ≤ 10) (h1 : inI (nI n) 0 8 = true) (h2 : inI (nI t) 0 10 = true) : FC YX7_lean (d + 1) [.ref 38, .int (nI n), .int (nI t), .int 0, .int 1, .null, .null, .null, .null, .null] [(38, .inr (7, [.ref 39, .ref 40, .int bu, .int (nI q), .ref 41, .int (nI pn), .ref 42, .int fl, .int fa, .int fw, .int fr, .int rs, .int ac, .ref 43, .ref 44, .ref 45, .ref 46, .ref 47, .ref 48, .ref 49]))] (some (.long (ilt (pwL (Int32.toInt64 (100 - nI (t * t))) n) (pwL 100 n) 1))) [(38, .inr (7, [.ref 39, .ref 40, .int bu, .int (nI q), .ref 41, .int (nI pn), .ref 42, .int fl, .int fa, .int fw, .int fr, .int rs, .int ac, .ref 43, .ref 44, .ref 45, .ref 46, .ref 47, .ref 48, .ref 49]))] := by
  intro hp
  refine E_iload_n dX7_lean_0 rfl ?_
  refine E_iconst (v := 0) dX7_lean_1 (by decide) ?_
  refine E_bipush (v := 8) dX7_lean_2 (by decide) ?_
  refine E_callS (As := [.int (nI n), .int 0, .int 8]) (l' := [.int (nI n), .int 0, .int 8]) (st := []) dX7_lean_4 kX7_48 sX7_in MX7_in rfl rfl (Nat.le_of_ble_eq_true rfl) (FC.use (c_in d _ _ _) rfl (L2 := [(38, .inr (7, [.ref 39, .ref 40, .int bu, .int (nI q), .ref 41, .int (nI pn), .ref 42, .int fl, .int fa, .int fw, .int fr, .int rs, .int ac, .ref 43, .ref 44, .ref 45, .ref 46, .ref 47, .ref 48, .ref 49]))]) rfl) (Nat.le_of_ble_eq_true rfl) (fun _ _ hq9 => E_fgo ?_ hq9)
  show E _ _ 7 [.ref 38, .int (nI n), .int (nI t), .int 0, .int 1, .null, .null, .null, .null, .null] [.int (b2i (inI (nI n) 0 8))] (hov hp [(38, .inr (7, [.ref 39, .ref 40, .int bu, .int (nI q), .ref 41, .int (nI pn), .ref 42, .int fl, .int fa, .int fw, .int fr, .int rs, .int ac, .ref 43, .ref 44, .ref 45, .ref 46, .ref 47, .ref 48, .ref 49]))]) _
  refine E_if_eq (tgt := 48) dX7_lean_7 (by decide) (fun c => (b2i_x1 h1 c).elim) (fun _ => ?_)
  refine E_iload_n dX7_lean_10 rfl ?_
  refine E_iconst (v := 0) dX7_lean_11 (by decide) ?_
  refine E_bipush (v := 10) dX7_lean_12 (by decide) ?_
  refine E_callS (As := [.int (nI t), .int 0, .int 10]) (l' := [.int (nI t), .int 0, .int 10]) (st := []) dX7_lean_14 kX7_48 sX7_in MX7_in rfl rfl (Nat.le_of_ble_eq_true rfl) (FC.use (c_in d _ _ _) rfl (L2 := [(38, .inr (7, [.ref 39, .ref 40, .int bu, .int (nI q), .ref 41, .int (nI pn), .ref 42, .int fl, .int fa, .int fw, .int fr, .int rs, .int ac, .ref 43, .ref 44, .ref 45, .ref 46, .ref 47, .ref 48, .ref 49]))]) rfl) (Nat.le_of_ble_eq_true rfl) (fun _ _ hq9 => E_fgo ?_ hq9)
  show E _ _ 17 [.ref 38, .int (nI n), .int (nI t), .int 0, .int 1, .null, .null, .null, .null, .null] [.int (b2i (inI (nI t) 0 10))] (hov hp [(38, .inr (7, [.ref 39, .ref 40, .int bu, .int (nI q), .ref 41, .int (nI pn), .ref 42, .int fl, .int fa, .int fw, .int fr, .int rs, .int ac, .ref 43, .ref 44, .ref 45, .ref 46, .ref 47, .ref 48, .ref 49]))]) _
  refine E_if_eq (tgt := 48) dX7_lean_17 (by decide) (fun c => (b2i_x1 h2 c).elim) (fun _ => ?_)
  refine E_iload_n dX7_lean_20 rfl ?_
  refine E_iconst (v := 0) dX7_lean_21 (by decide) ?_
  refine E_iconst (v := 1) dX7_lean_22 (by decide) ?_
  refine E_callS (As := [.int 0, .int 0, .int 1]) (l' := [.int 0, .int 0, .int 1]) (st := []) dX7_lean_23 kX7_48 sX7_in MX7_in rfl rfl (Nat.le_of_ble_eq_true rfl) (FC.use (c_in d _ _ _) rfl (L2 := [(38, .inr (7, [.ref 39, .ref 40, .int bu, .int (nI q), .ref 41, .int (nI pn), .ref 42, .int fl, .int fa, .int fw, .int fr, .int rs, .int ac, .ref 43, .ref 44, .ref 45, .ref 46, .ref 47, .ref 48, .ref 49]))]) rfl) (Nat.le_of_ble_eq_true rfl) (fun _ _ hq9 => E_fgo ?_ hq9)
  show E _ _ 26 [.ref 38, .int (nI n), .int (nI t), .int 0, .int 1, .null, .null, .null, .null, .null] [.int (b2i (inI 0 0 1))] (hov hp [(38, .inr (7, [.ref 39, .ref 40, .int bu, .int (nI q), .ref 41, .int (nI pn), .ref 42, .int fl, .int fa, .int fw, .int fr, .int rs, .int ac, .ref 43, .ref 44, .ref 45, .ref 46, .ref 47, .ref 48, .ref 49]))]) _
  refine E_if_eq (tgt := 48) dX7_lean_26 (by decide) (fun c => (b2i_x1 (by decide) c).elim) (fun _ => ?_)
  refine E_iload_n dX7_lean_29 rfl ?_
  refine E_iconst (v := 1) dX7_lean_30 (by decide) ?_
  refine E_icmp_ne (tgt := 38) dX7_lean_31 (by decide) (fun _ => ?_) (fun c => by first | exact absurd c (by decide) | exact absurd (by decide) c)
  refine E_iload dX7_lean_38 rfl ?_
  refine E_iconst (v := 0) dX7_lean_40 (by decide) ?_
  refine E_iconst (v := 1) dX7_lean_41 (by decide) ?_
  refine E_callS (As := [.int 1, .int 0, .int 1]) (l' := [.int 1, .int 0, .int 1]) (st := []) dX7_lean_42 kX7_48 sX7_in MX7_in rfl rfl (Nat.le_of_ble_eq_true rfl) (FC.use (c_in d _ _ _) rfl (L2 := [(38, .inr (7, [.ref 39, .ref 40, .int bu, .int (nI q), .ref 41, .int (nI pn), .ref 42, .int fl, .int fa, .int fw, .int fr, .int rs, .int ac, .ref 43, .ref 44, .ref 45, .ref 46, .ref 47, .ref 48, .ref 49]))]) rfl) (Nat.le_of_ble_eq_true rfl) (fun _ _ hq9 => E_fgo ?_ hq9)
  show E _ _ 45 [.ref 38, .int (nI n), .int (nI t), .int 0, .int 1, .null, .null, .null, .null, .null] [.int (b2i (inI 1 0 1))] (hov hp [(38, .inr (7, [.ref 39, .ref 40, .int bu, .int (nI q), .ref 41, .int (nI pn), .ref 42, .int fl, .int fa, .int fw, .int fr, .int rs, .int ac, .ref 43, .ref 44, .ref 45, .ref 46, .ref 47, .ref 48, .ref 49]))]) _
  refine E_if_ne (tgt := 52) dX7_lean_45 (by decide) (fun _ => ?_) (fun c => (b2i_x1 (by decide) c).elim)
  refine E_iload_n dX7_lean_52 rfl ?_
  refine E_iconst (v := 1) dX7_lean_53 (by decide) ?_
  refine E_icmp_ne (tgt := 70) dX7_lean_54 (by decide) (fun _ => ?_) (fun c => by first | exact absurd c (by decide) | exact absurd (by decide) c)
  refine E_lconst (v := 1) dX7_lean_70 (by decide) ?_
  refine E_lstore (l2 := [.ref 38, .int (nI n), .int (nI t), .int 0, .int 1, .long 1, .null, .null, .null, .null]) dX7_lean_71 (by decide) rfl ?_
  refine E_lconst (v := 1) dX7_lean_73 (by decide) ?_
  refine E_lstore (l2 := [.ref 38, .int (nI n), .int (nI t), .int 0, .int 1, .long 1, .null, .long 1, .null, .null]) dX7_lean_74 (by decide) rfl ?_
  refine E_iconst (v := 0) dX7_lean_76 (by decide) ?_
  refine E_istore (l2 := [.ref 38, .int (nI n), .int (nI t), .int 0, .int 1, .long 1, .null, .long 1, .null, .int 0]) dX7_lean_77 (by decide) rfl ?_
  have L : ∀ i, i ≤ n → E YX7_lean (d + 1) 79 [.ref 38, .int (nI n), .int (nI t), .int 0, .int 1, .long (pwL (Int32.toInt64 (100 - nI (t * t))) i), .null, .long (pwL 100 i), .null, .int (nI i)] [] (hov hp [(38, .inr (7, [.ref 39, .ref 40, .int bu, .int (nI q), .ref 41, .int (nI pn), .ref 42, .int fl, .int fa, .int fw, .int fr, .int rs, .int ac, .ref 43, .ref 44, .ref 45, .ref 46, .ref 47, .ref 48, .ref 49]))]) (fun v h' => v = some (.long (ilt (pwL (Int32.toInt64 (100 - nI (t * t))) n) (pwL 100 n) 1)) ∧ h' = hov hp [(38, .inr (7, [.ref 39, .ref 40, .int bu, .int (nI q), .ref 41, .int (nI pn), .ref 42, .int fl, .int fa, .int fw, .int fr, .int rs, .int ac, .ref 43, .ref 44, .ref 45, .ref 46, .ref 47, .ref 48, .ref 49]))]) := by
    refine down n ?_ ?_
    · refine E_iload dX7_lean_79 rfl ?_
      refine E_iload_n dX7_lean_81 rfl ?_
      refine E_icmp_ge (tgt := 111) dX7_lean_82 (by decide) (fun _ => ?_) (fun c => absurd (nI_le (Nat.le_refl _) (by omega)) c)
      refine E_lload dX7_lean_111 rfl ?_
      refine E_lload dX7_lean_113 rfl ?_
      refine E_iload dX7_lean_115 rfl ?_
      refine E_callS (As := [.long (pwL (Int32.toInt64 (100 - nI (t * t))) n), .long (pwL 100 n), .int 1]) (l' := [.long (pwL (Int32.toInt64 (100 - nI (t * t))) n), .null, .long (pwL 100 n), .null, .int 1, .null, .null, .null, .null, .null, .null]) (st := []) dX7_lean_117 kX7_147 sX7_lowest MX7_lowest rfl rfl (Nat.le_of_ble_eq_true rfl) (FC.use (m_lowest_1 d _ _ (lf_0 n (by omega) t (by omega))) rfl (L2 := [(38, .inr (7, [.ref 39, .ref 40, .int bu, .int (nI q), .ref 41, .int (nI pn), .ref 42, .int fl, .int fa, .int fw, .int fr, .int rs, .int ac, .ref 43, .ref 44, .ref 45, .ref 46, .ref 47, .ref 48, .ref 49]))]) rfl) (Nat.le_of_ble_eq_true rfl) (fun _ _ hq9 => E_fgo ?_ hq9)
      show E _ _ 120 [.ref 38, .int (nI n), .int (nI t), .int 0, .int 1, .long (pwL (Int32.toInt64 (100 - nI (t * t))) n), .null, .long (pwL 100 n), .null, .int (nI n)] [.long (ilt (pwL (Int32.toInt64 (100 - nI (t * t))) n) (pwL 100 n) 1)] (hov hp [(38, .inr (7, [.ref 39, .ref 40, .int bu, .int (nI q), .ref 41, .int (nI pn), .ref 42, .int fl, .int fa, .int fw, .int fr, .int rs, .int ac, .ref 43, .ref 44, .ref 45, .ref 46, .ref 47, .ref 48, .ref 49]))]) _
      exact E_lretf dX7_lean_120 rfl rfl rfl
    · intro i hi ih
      refine E_iload dX7_lean_79 rfl ?_
      refine E_iload_n dX7_lean_81 rfl ?_
      refine E_icmp_ge (tgt := 111) dX7_lean_82 (by decide) (fun c => absurd c (nI_ge hi (by omega))) (fun _ => ?_)
      refine E_lload dX7_lean_85 rfl ?_
      refine E_bipush (v := 100) dX7_lean_87 (by decide) ?_
      refine E_iload_n dX7_lean_89 rfl ?_
      refine E_iload_n dX7_lean_90 rfl ?_
      refine E_imul dX7_lean_91 ?_
      refine E_eqi (y := nI (t * t)) (pk_mul _ _) ?_
      refine E_isub dX7_lean_92 ?_
      refine E_i2l dX7_lean_93 ?_
      refine E_lmul dX7_lean_94 ?_
      refine E_lstore (l2 := [.ref 38, .int (nI n), .int (nI t), .int 0, .int 1, .long ((pwL (Int32.toInt64 (100 - nI (t * t))) i) * (Int32.toInt64 (100 - (nI (t * t))))), .null, .long (pwL 100 i), .null, .int (nI i)]) dX7_lean_95 (by decide) rfl ?_
      refine E_lload dX7_lean_97 rfl ?_
      refine E_ldc2 dX7_lean_99 qX7_126 ?_
      refine E_lmul dX7_lean_102 ?_
      refine E_lstore (l2 := [.ref 38, .int (nI n), .int (nI t), .int 0, .int 1, .long ((pwL (Int32.toInt64 (100 - nI (t * t))) i) * (Int32.toInt64 (100 - (nI (t * t))))), .null, .long ((pwL 100 i) * 100), .null, .int (nI i)]) dX7_lean_103 (by decide) rfl ?_
      refine E_iinc (y := nI (i + 1)) (l2 := [.ref 38, .int (nI n), .int (nI t), .int 0, .int 1, .long ((pwL (Int32.toInt64 (100 - nI (t * t))) i) * (Int32.toInt64 (100 - (nI (t * t))))), .null, .long ((pwL 100 i) * 100), .null, .int (nI (i + 1))]) dX7_lean_105 rfl (nI_1 _) (by decide) rfl ?_
      refine E_goto (tgt := 79) dX7_lean_108 (by decide) ?_
      exact ih
  exact L 0 (by omega)
