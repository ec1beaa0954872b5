/-! the pad, its fault; the weeks -/
def letB (s : Int32) : Bool := inL (Int32.toInt64 s) 65 70
def celB (s : Int32) : Bool := inL (Int32.toInt64 s) 97 121
def deedB (s : Int32) : Bool := celB s || (decide (s = 43) || (decide (s = 45) || (decide (s = 42) || decide (s = 94))))
def okS (b : Bool) (s : Int32) : Bool := bif b then deedB s else letB s || decide (s = 46)
def flt (f : Nat → Int32) : Nat → Nat → Bool → Int32
  | 0, p, b => bif b then nI p else -6
  | k + 1, p, b => bif okS b (f p) then flt f k (p + 1) (letB (f p)) else nI p
theorem flt_ok {f : Nat → Int32} {k p : Nat} {b : Bool} (h : okS b (f p) = true) : flt f (k + 1) p b = flt f k (p + 1) (letB (f p)) := by rw [flt, h]; rfl
theorem flt_no {f : Nat → Int32} {k p : Nat} {b : Bool} (h : okS b (f p) = false) : flt f (k + 1) p b = nI p := by rw [flt, h]; rfl
def kdN (s : Int32) : Nat := if s = 43 then 1 else if s = 45 then 2 else if s = 42 then 3 else if s = 94 then 4 else 0
def hN (s : Int32) : Nat := (s - 65).toNatClampNeg
abbrev WS : Type := CS × Nat × Int32 × Int32 × Int32
def wS (w : WS) : CS := w.1
def wA (w : WS) : Nat := w.2.1
def wF (w : WS) : Int32 := w.2.2.1
def wG (w : WS) : Int32 := w.2.2.2.1
def wH (w : WS) : Int32 := w.2.2.2.2
/-- the first that flares -/
def nt (a x g h : Int32) : Nat → Int32 × Int32
  | 0 => (g, h)
  | i + 1 => bif decide ((nt a x g h i).1 = -6) && hbt x (nI i) then (a, nI i) else nt a x g h i
theorem nt_fix {a x g h : Int32} {i : Nat} (hi : ¬ (nt a x g h i).1 = -6) : ∀ k, nt a x g h (i + k) = nt a x g h i
  | 0 => rfl
  | k + 1 => by
    have := nt_fix hi k
    show (bif decide ((nt a x g h (i + k)).1 = -6) && hbt x (nI (i + k)) then _ else nt a x g h (i + k)) = _
    rw [this, decide_eq_false hi]
    rfl
def ntG (a x g h : Int32) : Int32 := (nt a x g h 6).1
def ntH (a x g h : Int32) : Int32 := (nt a x g h 6).2
def wkn (w : WS) (kd h : Nat) (c : Int32) : WS := (prS (wS w) kd h c, wA w + 1, wF w + bcI (prF (wS w) kd), ntG (nI (wA w)) (prF (wS w) kd) (wG w) (wH w), ntH (nI (wA w)) (prF (wS w) kd) (wG w) (wH w))
theorem wkn_S (w : WS) (kd h : Nat) (c : Int32) : wS (wkn w kd h c) = prS (wS w) kd h c := by simp only [wS, wkn]
theorem wkn_A (w : WS) (kd h : Nat) (c : Int32) : wA (wkn w kd h c) = wA w + 1 := by simp only [wA, wkn]
theorem wkn_F (w : WS) (kd h : Nat) (c : Int32) : wF (wkn w kd h c) = wF w + bcI (prF (wS w) kd) := by simp only [wF, wkn]
theorem wkn_G (w : WS) (kd h : Nat) (c : Int32) : wG (wkn w kd h c) = ntG (nI (wA w)) (prF (wS w) kd) (wG w) (wH w) := by simp only [wG, wkn]
theorem wkn_H (w : WS) (kd h : Nat) (c : Int32) : wH (wkn w kd h c) = ntH (nI (wA w)) (prF (wS w) kd) (wG w) (wH w) := by simp only [wH, wkn]
def wk (f : Nat → Int32) : Nat → Nat → WS → WS × Int32
  | 0, _, w => (w, 0)
  | 1, p, w => if f p = 46 then (if rsn (wS w) 5 0 0 = 0 then (wkn w 5 0 0, 0) else (w, rsn (wS w) 5 0 0)) else (w, 0)
  | k + 2, p, w => if f p = 46 then (if rsn (wS w) 5 0 0 = 0 then wk f (k + 1) (p + 1) (wkn w 5 0 0) else (w, rsn (wS w) 5 0 0))
    else if rsn (wS w) (kdN (f (p + 1))) (hN (f p)) (f (p + 1) - 97) = 0 then wk f k (p + 2) (wkn w (kdN (f (p + 1))) (hN (f p)) (f (p + 1) - 97)) else (w, rsn (wS w) (kdN (f (p + 1))) (hN (f p)) (f (p + 1) - 97))
theorem wk_n0 {f : Nat → Int32} {k p : Nat} {w : WS} (h : f p = 46) (hr : rsn (wS w) 5 0 0 = 0) : wk f (k + 1) p w = wk f k (p + 1) (wkn w 5 0 0) := by
  cases k with
  | zero =>
    show (if f p = 46 then (if rsn (wS w) 5 0 0 = 0 then (wkn w 5 0 0, (0 : Int32)) else (w, rsn (wS w) 5 0 0)) else (w, 0)) = _
    rw [if_pos h, if_pos hr]
    rfl
  | succ k => rw [wk, if_pos h, if_pos hr]
theorem wk_n1 {f : Nat → Int32} {k p : Nat} {w : WS} (h : f p = 46) (hr : ¬ rsn (wS w) 5 0 0 = 0) : wk f (k + 1) p w = (w, rsn (wS w) 5 0 0) := by
  cases k with
  | zero =>
    show (if f p = 46 then (if rsn (wS w) 5 0 0 = 0 then (wkn w 5 0 0, (0 : Int32)) else (w, rsn (wS w) 5 0 0)) else (w, 0)) = _
    rw [if_pos h, if_neg hr]
  | succ k => rw [wk, if_pos h, if_neg hr]
theorem wk_a0 {f : Nat → Int32} {k p kd h : Nat} {w : WS} {c : Int32} (h0 : ¬ f p = 46) (hk : kdN (f (p + 1)) = kd) (hh : hN (f p) = h) (hc : f (p + 1) - 97 = c) (hr : rsn (wS w) kd h c = 0) : wk f (k + 2) p w = wk f k (p + 2) (wkn w kd h c) := by
  subst hk; subst hh; subst hc
  rw [wk, if_neg h0, if_pos hr]
theorem wk_a1 {f : Nat → Int32} {k p kd h : Nat} {w : WS} {c : Int32} (h0 : ¬ f p = 46) (hk : kdN (f (p + 1)) = kd) (hh : hN (f p) = h) (hc : f (p + 1) - 97 = c) (hr : ¬ rsn (wS w) kd h c = 0) : wk f (k + 2) p w = (w, rsn (wS w) kd h c) := by
  subst hk; subst hh; subst hc
  rw [wk, if_neg h0, if_neg hr]
def wk0 (s : CS) : WS := (s, 0, 0, -6, -6)
def stA (r : WS × Int32) : Int32 := if r.2 = 0 then -6 else nI (wA r.1)
def stW (r : WS × Int32) : Int32 := if r.2 = 0 then -6 else r.2
theorem tI65 {s : Int32} : letB s = true ↔ (65 ≤ s.toInt ∧ s.toInt ≤ 70) := by
  simp only [letB, inL, Bool.and_eq_true, decide_eq_true_eq, Int64.le_iff_toInt_le, Int32.toInt_toInt64]
  exact Iff.rfl
theorem tI97 {s : Int32} : celB s = true ↔ (97 ≤ s.toInt ∧ s.toInt ≤ 121) := by
  simp only [celB, inL, Bool.and_eq_true, decide_eq_true_eq, Int64.le_iff_toInt_le, Int32.toInt_toInt64]
  exact Iff.rfl
theorem letB_h {s : Int32} (h : letB s = true) : hN s < 6 ∧ s - 65 = nI (hN s) ∧ ¬ s = 46 := by
  have hs := tI65.mp h
  have hs0 : ¬ s = 46 := fun e => absurd hs (by rw [e]; decide)
  obtain ⟨j, hj, e⟩ : ∃ j : Nat, j < 2 ^ 31 ∧ s = nI j := nI_of (by rw [Int32.lt_iff_toInt_lt]; show ¬ s.toInt < 0; omega)
  subst e
  rw [nI_toInt hj] at hs
  have e2 : nI j - 65 = nI (j - 65) := pk_sub (a := j) (b := 65) (by omega)
  have e3 : hN (nI j) = j - 65 := by
    unfold hN
    rw [e2]
    exact nI_clamp (by omega)
  exact ⟨by omega, by rw [e3]; exact e2, hs0⟩
theorem deed_let {s : Int32} (h : deedB s = true) : letB s = false := by
  cases hl : letB s with
  | false => rfl
  | true =>
    have h1 := tI65.mp hl
    simp only [deedB, Bool.or_eq_true, decide_eq_true_eq] at h
    rcases h with h | h | h | h | h
    · have := tI97.mp h; omega
    all_goals subst h; exact absurd h1 (by decide)

set_option maxHeartbeats 4000000 in
set_option maxRecDepth 20000 in
theorem c_isHeapLetter (d : Nat) (x : Int32) : FC YX3_isHeapLetter (d + 1) [.int x] [] (some (.int (b2i (letB x)))) [] := by
  intro hp
  refine E_iload_n dX3_isHeapLetter_0 rfl ?_
  refine E_i2l dX3_isHeapLetter_1 ?_
  refine E_ldc2 dX3_isHeapLetter_2 qX3_26 ?_
  refine E_ldc2 dX3_isHeapLetter_5 qX3_28 ?_
  refine E_callN (As := [.long (Int32.toInt64 x), .long 65, .long 70]) (l' := [.long (Int32.toInt64 x), .null, .long 65, .null, .long 70, .null]) (st := []) dX3_isHeapLetter_8 nX3_30 sX6_isIn MX6_isIn rfl rfl (Nat.le_of_ble_eq_true rfl) (FC.use (c_isIn d _ _ _) rfl (L2 := []) rfl) (Nat.le_of_ble_eq_true rfl) (fun _ _ hq9 => E_fgo ?_ hq9)
  show E _ _ 11 [.int x] [.int (b2i (inL (Int32.toInt64 x) 65 70))] (hov hp []) _
  exact E_iretf dX3_isHeapLetter_11 rfl (b2i_nar _) rfl rfl

set_option maxHeartbeats 4000000 in
set_option maxRecDepth 20000 in
theorem c_isCellLetter (d : Nat) (x : Int32) : FC YX3_isCellLetter (d + 1) [.int x] [] (some (.int (b2i (celB x)))) [] := by
  intro hp
  refine E_iload_n dX3_isCellLetter_0 rfl ?_
  refine E_i2l dX3_isCellLetter_1 ?_
  refine E_ldc2 dX3_isCellLetter_2 qX3_34 ?_
  refine E_ldc2 dX3_isCellLetter_5 qX3_36 ?_
  refine E_callN (As := [.long (Int32.toInt64 x), .long 97, .long 121]) (l' := [.long (Int32.toInt64 x), .null, .long 97, .null, .long 121, .null]) (st := []) dX3_isCellLetter_8 nX3_30 sX6_isIn MX6_isIn rfl rfl (Nat.le_of_ble_eq_true rfl) (FC.use (c_isIn d _ _ _) rfl (L2 := []) rfl) (Nat.le_of_ble_eq_true rfl) (fun _ _ hq9 => E_fgo ?_ hq9)
  show E _ _ 11 [.int x] [.int (b2i (inL (Int32.toInt64 x) 97 121))] (hov hp []) _
  exact E_iretf dX3_isCellLetter_11 rfl (b2i_nar _) rfl rfl

set_option maxHeartbeats 4000000 in
set_option maxRecDepth 20000 in
theorem c_isDeed (d : Nat) (x : Int32) : FC YX3_isDeed (d + 2) [.int x] [] (some (.int (b2i (deedB x)))) [] := by
  intro hp
  refine E_iload_n dX3_isDeed_0 rfl ?_
  refine E_callS (As := [.int x]) (l' := [.int x]) (st := []) dX3_isDeed_1 kX3_38 sX3_isCellLetter MX3_isCellLetter rfl rfl (Nat.le_of_ble_eq_true rfl) (FC.use (c_isCellLetter d _) rfl (L2 := []) rfl) (Nat.le_of_ble_eq_true rfl) (fun _ _ hq9 => E_fgo ?_ hq9)
  show E _ _ 4 [.int x] [.int (b2i (celB x))] (hov hp []) _
  refine E_if_ne (tgt := 31) dX3_isDeed_4 (by decide) (fun c4 => ?_) (fun c4 => ?_)
  · have c4 := b2i_n0 c4
    refine E_iconst (v := 1) dX3_isDeed_31 (by decide) ?_
    refine E_goto (tgt := 36) dX3_isDeed_32 (by decide) ?_
    exact E_iretf dX3_isDeed_36 rfl (b2i_nar _) (by simp [deedB, b2i, c4]) rfl
  · have c4 := b2i_e0 c4
    refine E_iload_n dX3_isDeed_7 rfl ?_
    refine E_bipush (v := 43) dX3_isDeed_8 (by decide) ?_
    refine E_icmp_eq (tgt := 31) dX3_isDeed_10 (by decide) (fun c10 => ?_) (fun c10 => ?_)
    · refine E_iconst (v := 1) dX3_isDeed_31 (by decide) ?_
      refine E_goto (tgt := 36) dX3_isDeed_32 (by decide) ?_
      exact E_iretf dX3_isDeed_36 rfl (b2i_nar _) (by simp [deedB, b2i, c4, c10]) rfl
    · refine E_iload_n dX3_isDeed_13 rfl ?_
      refine E_bipush (v := 45) dX3_isDeed_14 (by decide) ?_
      refine E_icmp_eq (tgt := 31) dX3_isDeed_16 (by decide) (fun c16 => ?_) (fun c16 => ?_)
      · refine E_iconst (v := 1) dX3_isDeed_31 (by decide) ?_
        refine E_goto (tgt := 36) dX3_isDeed_32 (by decide) ?_
        exact E_iretf dX3_isDeed_36 rfl (b2i_nar _) (by simp [deedB, b2i, c4, c10, c16]) rfl
      · refine E_iload_n dX3_isDeed_19 rfl ?_
        refine E_bipush (v := 42) dX3_isDeed_20 (by decide) ?_
        refine E_icmp_eq (tgt := 31) dX3_isDeed_22 (by decide) (fun c22 => ?_) (fun c22 => ?_)
        · refine E_iconst (v := 1) dX3_isDeed_31 (by decide) ?_
          refine E_goto (tgt := 36) dX3_isDeed_32 (by decide) ?_
          exact E_iretf dX3_isDeed_36 rfl (b2i_nar _) (by simp [deedB, b2i, c4, c10, c16, c22]) rfl
        · refine E_iload_n dX3_isDeed_25 rfl ?_
          refine E_bipush (v := 94) dX3_isDeed_26 (by decide) ?_
          refine E_icmp_ne (tgt := 35) dX3_isDeed_28 (by decide) (fun c28 => ?_) (fun c28 => ?_)
          · refine E_iconst (v := 0) dX3_isDeed_35 (by decide) ?_
            exact E_iretf dX3_isDeed_36 rfl (b2i_nar _) (by simp [deedB, b2i, c4, c10, c16, c22, c28]) rfl
          · refine E_iconst (v := 1) dX3_isDeed_31 (by decide) ?_
            refine E_goto (tgt := 36) dX3_isDeed_32 (by decide) ?_
            exact E_iretf dX3_isDeed_36 rfl (b2i_nar _) (by simp [deedB, b2i, c4, c10, c16, c22, c28]) rfl

set_option maxHeartbeats 4000000 in
set_option maxRecDepth 20000 in
theorem c_kind_43 (d : Nat)  : FC YX3_kindOf d [.int 43] [] (some (.int 1)) [] := by
  intro hp
  refine E_iload_n dX3_kindOf_0 rfl ?_
  refine E_lookup (off := 51) (tgt := 52) dX3_kindOf_1 (by decide) (by decide) (by decide) ?_
  refine E_iconst (v := 1) dX3_kindOf_52 (by decide) ?_
  exact E_iretf dX3_kindOf_53 rfl rfl rfl rfl

set_option maxHeartbeats 4000000 in
set_option maxRecDepth 20000 in
theorem c_kind_45 (d : Nat)  : FC YX3_kindOf d [.int 45] [] (some (.int 2)) [] := by
  intro hp
  refine E_iload_n dX3_kindOf_0 rfl ?_
  refine E_lookup (off := 53) (tgt := 54) dX3_kindOf_1 (by decide) (by decide) (by decide) ?_
  refine E_iconst (v := 2) dX3_kindOf_54 (by decide) ?_
  exact E_iretf dX3_kindOf_55 rfl rfl rfl rfl

set_option maxHeartbeats 4000000 in
set_option maxRecDepth 20000 in
theorem c_kind_42 (d : Nat)  : FC YX3_kindOf d [.int 42] [] (some (.int 3)) [] := by
  intro hp
  refine E_iload_n dX3_kindOf_0 rfl ?_
  refine E_lookup (off := 55) (tgt := 56) dX3_kindOf_1 (by decide) (by decide) (by decide) ?_
  refine E_iconst (v := 3) dX3_kindOf_56 (by decide) ?_
  exact E_iretf dX3_kindOf_57 rfl rfl rfl rfl

set_option maxHeartbeats 4000000 in
set_option maxRecDepth 20000 in
theorem c_kind_94 (d : Nat)  : FC YX3_kindOf d [.int 94] [] (some (.int 4)) [] := by
  intro hp
  refine E_iload_n dX3_kindOf_0 rfl ?_
  refine E_lookup (off := 57) (tgt := 58) dX3_kindOf_1 (by decide) (by decide) (by decide) ?_
  refine E_iconst (v := 4) dX3_kindOf_58 (by decide) ?_
  exact E_iretf dX3_kindOf_59 rfl rfl rfl rfl

set_option maxHeartbeats 4000000 in
set_option maxRecDepth 20000 in
theorem c_kind_46 (d : Nat)  : FC YX3_kindOf d [.int 46] [] (some (.int 5)) [] := by
  intro hp
  refine E_iload_n dX3_kindOf_0 rfl ?_
  refine E_lookup (off := 59) (tgt := 60) dX3_kindOf_1 (by decide) (by decide) (by decide) ?_
  refine E_iconst (v := 5) dX3_kindOf_60 (by decide) ?_
  exact E_iretf dX3_kindOf_61 rfl rfl rfl rfl

set_option maxHeartbeats 4000000 in
set_option maxRecDepth 20000 in
theorem c_kind_cell (d : Nat) (x : Int32) (h42 : ¬ x = 42) (h43 : ¬ x = 43) (h45 : ¬ x = 45) (h46 : ¬ x = 46) (h94 : ¬ x = 94) : FC YX3_kindOf d [.int x] [] (some (.int 0)) [] := by
  intro hp
  refine E_iload_n dX3_kindOf_0 rfl ?_
  refine E_lookup (off := 61) (tgt := 62) dX3_kindOf_1 (by decide) (by show Op.lookupswitch.offset [(42, 55), (43, 51), (45, 53), (46, 59), (94, 57)] 61 x.toInt = 61; rw [lv_osw h42 (by decide : Int32.toInt 42 = 42), lv_osw h43 (by decide : Int32.toInt 43 = 43), lv_osw h45 (by decide : Int32.toInt 45 = 45), lv_osw h46 (by decide : Int32.toInt 46 = 46), lv_osw h94 (by decide : Int32.toInt 94 = 94)]; rfl) (by decide) ?_
  refine E_iconst (v := 0) dX3_kindOf_62 (by decide) ?_
  exact E_iretf dX3_kindOf_63 rfl rfl rfl rfl

set_option maxHeartbeats 4000000 in
set_option maxRecDepth 20000 in
theorem c_pad_add (d : Nat) (f : Nat → Int32) (n : Nat) (hn : n < 60) (x : Int32) : FC YX3_append d [.ref 5, .int x] [(5, .inr (3, [.ref 6, .int (nI n)])), (6, .inl (false, 60, f))] (some (.int (b2i true))) [(5, .inr (3, [.ref 6, .int (nI (n + 1))])), (6, .inl (false, 60, (upd f n x)))] := by
  intro hp
  refine E_aload_n dX3_append_0 rfl ?_
  refine E_get dX3_append_1 fX3_15 (by decide) rfl rfl ?_
  refine E_if_lt (tgt := 16) dX3_append_4 (by decide) (fun c => absurd c (nI_pos (by omega))) (fun _ => ?_)
  refine E_aload_n dX3_append_7 rfl ?_
  refine E_get dX3_append_8 fX3_15 (by decide) rfl rfl ?_
  refine E_bipush (v := 60) dX3_append_11 (by decide) ?_
  refine E_icmp_lt (tgt := 18) dX3_append_13 (by decide) (fun _ => ?_) (fun c => absurd (cI_lt (n := 60) rfl hn (by decide)) c)
  refine E_aload_n dX3_append_18 rfl ?_
  refine E_get dX3_append_19 fX3_9 (by decide) rfl rfl ?_
  refine E_aload_n dX3_append_22 rfl ?_
  refine E_get dX3_append_23 fX3_15 (by decide) rfl rfl ?_
  refine E_iload_n dX3_append_26 rfl ?_
  refine E_iastN (j := n) (f2 := upd f n x) (L2 := [(5, .inr (3, [.ref 6, .int (nI n)])), (6, .inl (false, 60, (upd f n x)))]) dX3_append_27 (by decide) rfl (by omega) (by decide) rfl rfl ?_
  refine E_aload_n dX3_append_28 rfl ?_
  refine E_dup dX3_append_29 rfl ?_
  refine E_get dX3_append_30 fX3_15 (by decide) rfl rfl ?_
  refine E_iconst (v := 1) dX3_append_33 (by decide) ?_
  refine E_iadd dX3_append_34 ?_
  refine E_eqi (y := nI (n + 1)) (nI_1 _) ?_
  refine E_puti (fs2 := [.ref 6, .int (nI (n + 1))]) (L2 := [(5, .inr (3, [.ref 6, .int (nI (n + 1))])), (6, .inl (false, 60, (upd f n x)))]) dX3_append_35 fX3_15 fpX3_1 (by decide) rfl (Nat.le_of_ble_eq_true rfl) rfl rfl ?_
  refine E_iconst (v := 1) dX3_append_38 (by decide) ?_
  exact E_iretf dX3_append_39 rfl (b2i_nar _) rfl rfl

set_option maxHeartbeats 4000000 in
set_option maxRecDepth 20000 in
theorem c_pad_full (d : Nat) (f : Nat → Int32) (x : Int32) : FC YX3_append d [.ref 5, .int x] [(5, .inr (3, [.ref 6, .int (nI 60)])), (6, .inl (false, 60, f))] (some (.int (b2i false))) [(5, .inr (3, [.ref 6, .int (nI 60)])), (6, .inl (false, 60, f))] := by
  intro hp
  refine E_aload_n dX3_append_0 rfl ?_
  refine E_get dX3_append_1 fX3_15 (by decide) rfl rfl ?_
  refine E_if_lt (tgt := 16) dX3_append_4 (by decide) (fun c => absurd c (by decide)) (fun _ => ?_)
  refine E_aload_n dX3_append_7 rfl ?_
  refine E_get dX3_append_8 fX3_15 (by decide) rfl rfl ?_
  refine E_bipush (v := 60) dX3_append_11 (by decide) ?_
  refine E_icmp_lt (tgt := 18) dX3_append_13 (by decide) (fun c => absurd c (by decide)) (fun _ => ?_)
  refine E_iconst (v := 0) dX3_append_16 (by decide) ?_
  exact E_iretf dX3_append_17 rfl (b2i_nar _) rfl rfl

set_option maxHeartbeats 4000000 in
set_option maxRecDepth 20000 in
theorem c_faultPlace (d : Nat) (f : Nat → Int32) (n : Nat) (hn : n ≤ 60) : FC YX3_faultPlace (d + 3) [.ref 5, .null, .null, .null, .null] [(5, .inr (3, [.ref 6, .int (nI n)])), (6, .inl (false, 60, f))] (some (.int (flt f n 0 false))) [(5, .inr (3, [.ref 6, .int (nI n)])), (6, .inl (false, 60, f))] := by
  intro hp
  refine E_iconst (v := 0) dX3_faultPlace_0 (by decide) ?_
  refine E_istore_n (l2 := [.ref 5, .int 0, .null, .null, .null]) dX3_faultPlace_1 rfl (by decide) rfl ?_
  refine E_iconst (v := 0) dX3_faultPlace_2 (by decide) ?_
  refine E_istore_n (l2 := [.ref 5, .int 0, .int 0, .null, .null]) dX3_faultPlace_3 rfl (by decide) rfl ?_
  have L : ∀ (k p : Nat) (b : Bool) (l3 l4 : Value), p + k = n → flt f k p b = flt f n 0 false → E YX3_faultPlace (d + 3) 4 [.ref 5, .int (b2i b), .int (nI p), l3, l4] [] (hov hp [(5, .inr (3, [.ref 6, .int (nI n)])), (6, .inl (false, 60, f))]) (fun v h' => v = some (.int (flt f n 0 false)) ∧ h' = hov hp [(5, .inr (3, [.ref 6, .int (nI n)])), (6, .inl (false, 60, f))]) := by
    intro k
    induction k with
    | zero =>
      intro p b l3 l4 hpk he
      have hpk : p = n := by omega
      subst hpk
      refine E_iload_n dX3_faultPlace_4 rfl ?_
      refine E_aload_n dX3_faultPlace_5 rfl ?_
      refine E_get dX3_faultPlace_6 fX3_15 (by decide) rfl rfl ?_
      refine E_icmp_ge (tgt := 81) dX3_faultPlace_9 (by decide) (fun _ => ?_) (fun c => absurd (nI_le (Nat.le_refl _) (by omega)) c)
      refine E_iload_n dX3_faultPlace_81 rfl ?_
      refine E_if_eq (tgt := 92) dX3_faultPlace_82 (by decide) (fun c82 => ?_) (fun c82 => ?_)
      · have c82 := b2i_e0 c82
        refine E_bipush (v := (-6)) dX3_faultPlace_92 (by decide) ?_
        exact E_iretf dX3_faultPlace_94 rfl rfl (by rw [← he]; simp [flt, c82]) rfl
      · have c82 := b2i_n0 c82
        refine E_aload_n dX3_faultPlace_85 rfl ?_
        refine E_get dX3_faultPlace_86 fX3_15 (by decide) rfl rfl ?_
        refine E_goto (tgt := 94) dX3_faultPlace_89 (by decide) ?_
        exact E_iretf dX3_faultPlace_94 rfl rfl (by rw [← he]; simp [flt, c82]) rfl
    | succ k ih =>
      intro p b l3 l4 hpk he
      refine E_iload_n dX3_faultPlace_4 rfl ?_
      refine E_aload_n dX3_faultPlace_5 rfl ?_
      refine E_get dX3_faultPlace_6 fX3_15 (by decide) rfl rfl ?_
      refine E_icmp_ge (tgt := 81) dX3_faultPlace_9 (by decide) (fun c => absurd c (nI_ge (by omega) (by omega))) (fun _ => ?_)
      refine E_iload_n dX3_faultPlace_12 rfl ?_
      refine E_bipush (v := 60) dX3_faultPlace_13 (by decide) ?_
      refine E_icmp_ge (tgt := 81) dX3_faultPlace_15 (by decide) (fun c => absurd c (cI_nle (n := 60) rfl (by omega) (by decide))) (fun _ => ?_)
      refine E_aload_n dX3_faultPlace_18 rfl ?_
      refine E_get dX3_faultPlace_19 fX3_9 (by decide) rfl rfl ?_
      refine E_iload_n dX3_faultPlace_22 rfl ?_
      refine E_ialdN (j := p) dX3_faultPlace_23 (by decide) rfl (by omega) (by decide) ?_
      refine E_callS (As := [.int (f p)]) (l' := [.int (f p)]) (st := []) dX3_faultPlace_24 kX3_19 sX3_isHeapLetter MX3_isHeapLetter rfl rfl (Nat.le_of_ble_eq_true rfl) (FC.use (c_isHeapLetter (d + 1) _) rfl (L2 := [(5, .inr (3, [.ref 6, .int (nI n)])), (6, .inl (false, 60, f))]) rfl) (Nat.le_of_ble_eq_true rfl) (fun _ _ hq9 => E_fgo ?_ hq9)
      show E _ _ 27 [.ref 5, .int (b2i b), .int (nI p), l3, l4] [.int (b2i (letB (f p)))] (hov hp [(5, .inr (3, [.ref 6, .int (nI n)])), (6, .inl (false, 60, f))]) _
      refine E_istore_n (l2 := [.ref 5, .int (b2i b), .int (nI p), .int (b2i (letB (f p))), l4]) dX3_faultPlace_27 rfl (by decide) rfl ?_
      refine E_iload_n dX3_faultPlace_28 rfl ?_
      refine E_if_eq (tgt := 44) dX3_faultPlace_29 (by decide) (fun c29 => ?_) (fun c29 => ?_)
      · have c29 := b2i_e0 c29
        refine E_iload_n dX3_faultPlace_44 rfl ?_
        refine E_if_ne (tgt := 59) dX3_faultPlace_45 (by decide) (fun c45 => ?_) (fun c45 => ?_)
        · have c45 := b2i_n0 c45
          refine E_iconst (v := 1) dX3_faultPlace_59 (by decide) ?_
          refine E_goto (tgt := 64) dX3_faultPlace_60 (by decide) ?_
          refine E_istore (l2 := [.ref 5, .int (b2i b), .int (nI p), .int (b2i (letB (f p))), .int 1]) dX3_faultPlace_64 (by decide) rfl ?_
          refine E_iload dX3_faultPlace_66 rfl ?_
          refine E_if_ne (tgt := 73) dX3_faultPlace_68 (by decide) (fun _ => ?_) (fun c => by first | exact absurd c (by decide) | exact absurd (by decide) c)
          refine E_iload_n dX3_faultPlace_73 rfl ?_
          refine E_istore_n (l2 := [.ref 5, .int (b2i (letB (f p))), .int (nI p), .int (b2i (letB (f p))), .int 1]) dX3_faultPlace_74 rfl (by decide) rfl ?_
          refine E_iinc (y := nI (p + 1)) (l2 := [.ref 5, .int (b2i (letB (f p))), .int (nI (p + 1)), .int (b2i (letB (f p))), .int 1]) dX3_faultPlace_75 rfl (nI_1 _) (by decide) rfl ?_
          refine E_goto (tgt := 4) dX3_faultPlace_78 (by decide) ?_
          exact ih (p + 1) (letB (f p)) _ _ (by omega) (by rw [← he, flt_ok (by simp [okS, c29, c45])])
        · have c45 := b2i_e0 c45
          refine E_aload_n dX3_faultPlace_48 rfl ?_
          refine E_get dX3_faultPlace_49 fX3_9 (by decide) rfl rfl ?_
          refine E_iload_n dX3_faultPlace_52 rfl ?_
          refine E_ialdN (j := p) dX3_faultPlace_53 (by decide) rfl (by omega) (by decide) ?_
          refine E_bipush (v := 46) dX3_faultPlace_54 (by decide) ?_
          refine E_icmp_ne (tgt := 63) dX3_faultPlace_56 (by decide) (fun c56 => ?_) (fun c56 => ?_)
          · refine E_iconst (v := 0) dX3_faultPlace_63 (by decide) ?_
            refine E_istore (l2 := [.ref 5, .int (b2i b), .int (nI p), .int (b2i (letB (f p))), .int 0]) dX3_faultPlace_64 (by decide) rfl ?_
            refine E_iload dX3_faultPlace_66 rfl ?_
            refine E_if_ne (tgt := 73) dX3_faultPlace_68 (by decide) (fun c => by first | exact absurd c (by decide) | exact absurd (by decide) c) (fun _ => ?_)
            refine E_iload_n dX3_faultPlace_71 rfl ?_
            exact E_iretf dX3_faultPlace_72 rfl rfl (by rw [← he, flt_no (by simp [okS, c29, c45, c56])]) rfl
          · refine E_iconst (v := 1) dX3_faultPlace_59 (by decide) ?_
            refine E_goto (tgt := 64) dX3_faultPlace_60 (by decide) ?_
            refine E_istore (l2 := [.ref 5, .int (b2i b), .int (nI p), .int (b2i (letB (f p))), .int 1]) dX3_faultPlace_64 (by decide) rfl ?_
            refine E_iload dX3_faultPlace_66 rfl ?_
            refine E_if_ne (tgt := 73) dX3_faultPlace_68 (by decide) (fun _ => ?_) (fun c => by first | exact absurd c (by decide) | exact absurd (by decide) c)
            refine E_iload_n dX3_faultPlace_73 rfl ?_
            refine E_istore_n (l2 := [.ref 5, .int (b2i (letB (f p))), .int (nI p), .int (b2i (letB (f p))), .int 1]) dX3_faultPlace_74 rfl (by decide) rfl ?_
            refine E_iinc (y := nI (p + 1)) (l2 := [.ref 5, .int (b2i (letB (f p))), .int (nI (p + 1)), .int (b2i (letB (f p))), .int 1]) dX3_faultPlace_75 rfl (nI_1 _) (by decide) rfl ?_
            refine E_goto (tgt := 4) dX3_faultPlace_78 (by decide) ?_
            exact ih (p + 1) (letB (f p)) _ _ (by omega) (by rw [← he, flt_ok (by simp [okS, c29, c45, c56])])
      · have c29 := b2i_n0 c29
        refine E_aload_n dX3_faultPlace_32 rfl ?_
        refine E_get dX3_faultPlace_33 fX3_9 (by decide) rfl rfl ?_
        refine E_iload_n dX3_faultPlace_36 rfl ?_
        refine E_ialdN (j := p) dX3_faultPlace_37 (by decide) rfl (by omega) (by decide) ?_
        refine E_callS (As := [.int (f p)]) (l' := [.int (f p)]) (st := []) dX3_faultPlace_38 kX3_23 sX3_isDeed MX3_isDeed rfl rfl (Nat.le_of_ble_eq_true rfl) (FC.use (c_isDeed d _) rfl (L2 := [(5, .inr (3, [.ref 6, .int (nI n)])), (6, .inl (false, 60, f))]) rfl) (Nat.le_of_ble_eq_true rfl) (fun _ _ hq9 => E_fgo ?_ hq9)
        show E _ _ 41 [.ref 5, .int (b2i b), .int (nI p), .int (b2i (letB (f p))), l4] [.int (b2i (deedB (f p)))] (hov hp [(5, .inr (3, [.ref 6, .int (nI n)])), (6, .inl (false, 60, f))]) _
        refine E_goto (tgt := 64) dX3_faultPlace_41 (by decide) ?_
        refine E_istore (l2 := [.ref 5, .int (b2i b), .int (nI p), .int (b2i (letB (f p))), .int (b2i (deedB (f p)))]) dX3_faultPlace_64 (by decide) rfl ?_
        refine E_iload dX3_faultPlace_66 rfl ?_
        refine E_if_ne (tgt := 73) dX3_faultPlace_68 (by decide) (fun c68 => ?_) (fun c68 => ?_)
        · have c68 := b2i_n0 c68
          refine E_iload_n dX3_faultPlace_73 rfl ?_
          refine E_istore_n (l2 := [.ref 5, .int (b2i (letB (f p))), .int (nI p), .int (b2i (letB (f p))), .int (b2i (deedB (f p)))]) dX3_faultPlace_74 rfl (by decide) rfl ?_
          refine E_iinc (y := nI (p + 1)) (l2 := [.ref 5, .int (b2i (letB (f p))), .int (nI (p + 1)), .int (b2i (letB (f p))), .int (b2i (deedB (f p)))]) dX3_faultPlace_75 rfl (nI_1 _) (by decide) rfl ?_
          refine E_goto (tgt := 4) dX3_faultPlace_78 (by decide) ?_
          exact ih (p + 1) (letB (f p)) _ _ (by omega) (by rw [← he, flt_ok (by simp [okS, c29, c68])])
        · have c68 := b2i_e0 c68
          refine E_iload_n dX3_faultPlace_71 rfl ?_
          exact E_iretf dX3_faultPlace_72 rfl rfl (by rw [← he, flt_no (by simp [okS, c29, c68])]) rfl
  exact L n 0 false _ _ (by omega) rfl

set_option maxHeartbeats 4000000 in
set_option maxRecDepth 20000 in
theorem c_begin (d : Nat) (t s : CS) (hA : Agr t s) (y0 y1 y2 y3 y4 y5 : Int32) : FC YX5_begin (d + 1) [.ref 26, .ref 1] [(1, .inr (0, [.ref 2, .ref 3, .ref 4, .int (skn s), .int (sdr s), .int (swa s), .int (sbu s), .int (sni s)])), (2, .inl (false, 6, sce s)), (3, .inl (false, 6, she s)), (4, .inl (false, 6, stu s)), (26, .inr (5, [.ref 27, .int y0, .int y1, .int y2, .int y3, .int y4, .int y5])), (27, .inr (0, [.ref 28, .ref 29, .ref 30, .int (skn t), .int (sdr t), .int (swa t), .int (sbu t), .int (sni t)])), (28, .inl (false, 6, sce t)), (29, .inl (false, 6, she t)), (30, .inl (false, 6, stu t))] (none) [(1, .inr (0, [.ref 2, .ref 3, .ref 4, .int (skn s), .int (sdr s), .int (swa s), .int (sbu s), .int (sni s)])), (2, .inl (false, 6, sce s)), (3, .inl (false, 6, she s)), (4, .inl (false, 6, stu s)), (26, .inr (5, [.ref 27, .int 0, .int (-6), .int (-6), .int 0, .int (-6), .int (-6)])), (27, .inr (0, [.ref 28, .ref 29, .ref 30, .int (skn s), .int (sdr s), .int (swa s), .int (sbu s), .int (sni s)])), (28, .inl (false, 6, sce s)), (29, .inl (false, 6, she s)), (30, .inl (false, 6, stu s))] := by
  intro hp
  refine E_aload_n dX5_begin_0 rfl ?_
  refine E_get dX5_begin_1 fX5_12 (by decide) rfl rfl ?_
  refine E_aload_n dX5_begin_4 rfl ?_
  refine E_callV (As := [.ref 1]) (l' := [.ref 27, .ref 1, .null]) (st := []) dX5_begin_5 kX5_64 iX0_copyFrom vX0_copyFrom (by decide) rfl rfl MX0_copyFrom rfl rfl (Nat.le_of_ble_eq_true rfl) (FC.use (c_copy_27_1 d t s hA) rfl (L2 := [(1, .inr (0, [.ref 2, .ref 3, .ref 4, .int (skn s), .int (sdr s), .int (swa s), .int (sbu s), .int (sni s)])), (2, .inl (false, 6, sce s)), (3, .inl (false, 6, she s)), (4, .inl (false, 6, stu s)), (26, .inr (5, [.ref 27, .int y0, .int y1, .int y2, .int y3, .int y4, .int y5])), (27, .inr (0, [.ref 28, .ref 29, .ref 30, .int (skn s), .int (sdr s), .int (swa s), .int (sbu s), .int (sni s)])), (28, .inl (false, 6, sce s)), (29, .inl (false, 6, she s)), (30, .inl (false, 6, stu s))]) rfl) (Nat.le_of_ble_eq_true rfl) (fun _ _ hq9 => E_fgo ?_ hq9)
  show E _ _ 8 [.ref 26, .ref 1] [] (hov hp [(1, .inr (0, [.ref 2, .ref 3, .ref 4, .int (skn s), .int (sdr s), .int (swa s), .int (sbu s), .int (sni s)])), (2, .inl (false, 6, sce s)), (3, .inl (false, 6, she s)), (4, .inl (false, 6, stu s)), (26, .inr (5, [.ref 27, .int y0, .int y1, .int y2, .int y3, .int y4, .int y5])), (27, .inr (0, [.ref 28, .ref 29, .ref 30, .int (skn s), .int (sdr s), .int (swa s), .int (sbu s), .int (sni s)])), (28, .inl (false, 6, sce s)), (29, .inl (false, 6, she s)), (30, .inl (false, 6, stu s))]) _
  refine E_aload_n dX5_begin_8 rfl ?_
  refine E_iconst (v := 0) dX5_begin_9 (by decide) ?_
  refine E_puti (fs2 := [.ref 27, .int 0, .int y1, .int y2, .int y3, .int y4, .int y5]) (L2 := [(1, .inr (0, [.ref 2, .ref 3, .ref 4, .int (skn s), .int (sdr s), .int (swa s), .int (sbu s), .int (sni s)])), (2, .inl (false, 6, sce s)), (3, .inl (false, 6, she s)), (4, .inl (false, 6, stu s)), (26, .inr (5, [.ref 27, .int 0, .int y1, .int y2, .int y3, .int y4, .int y5])), (27, .inr (0, [.ref 28, .ref 29, .ref 30, .int (skn s), .int (sdr s), .int (swa s), .int (sbu s), .int (sni s)])), (28, .inl (false, 6, sce s)), (29, .inl (false, 6, she s)), (30, .inl (false, 6, stu s))]) dX5_begin_10 fX5_48 fpX5_1 (by decide) rfl (Nat.le_of_ble_eq_true rfl) rfl rfl ?_
  refine E_aload_n dX5_begin_13 rfl ?_
  refine E_bipush (v := (-6)) dX5_begin_14 (by decide) ?_
  refine E_puti (fs2 := [.ref 27, .int 0, .int (-6), .int y2, .int y3, .int y4, .int y5]) (L2 := [(1, .inr (0, [.ref 2, .ref 3, .ref 4, .int (skn s), .int (sdr s), .int (swa s), .int (sbu s), .int (sni s)])), (2, .inl (false, 6, sce s)), (3, .inl (false, 6, she s)), (4, .inl (false, 6, stu s)), (26, .inr (5, [.ref 27, .int 0, .int (-6), .int y2, .int y3, .int y4, .int y5])), (27, .inr (0, [.ref 28, .ref 29, .ref 30, .int (skn s), .int (sdr s), .int (swa s), .int (sbu s), .int (sni s)])), (28, .inl (false, 6, sce s)), (29, .inl (false, 6, she s)), (30, .inl (false, 6, stu s))]) dX5_begin_16 fX5_51 fpX5_2 (by decide) rfl (Nat.le_of_ble_eq_true rfl) rfl rfl ?_
  refine E_aload_n dX5_begin_19 rfl ?_
  refine E_bipush (v := (-6)) dX5_begin_20 (by decide) ?_
  refine E_puti (fs2 := [.ref 27, .int 0, .int (-6), .int (-6), .int y3, .int y4, .int y5]) (L2 := [(1, .inr (0, [.ref 2, .ref 3, .ref 4, .int (skn s), .int (sdr s), .int (swa s), .int (sbu s), .int (sni s)])), (2, .inl (false, 6, sce s)), (3, .inl (false, 6, she s)), (4, .inl (false, 6, stu s)), (26, .inr (5, [.ref 27, .int 0, .int (-6), .int (-6), .int y3, .int y4, .int y5])), (27, .inr (0, [.ref 28, .ref 29, .ref 30, .int (skn s), .int (sdr s), .int (swa s), .int (sbu s), .int (sni s)])), (28, .inl (false, 6, sce s)), (29, .inl (false, 6, she s)), (30, .inl (false, 6, stu s))]) dX5_begin_22 fX5_54 fpX5_3 (by decide) rfl (Nat.le_of_ble_eq_true rfl) rfl rfl ?_
  refine E_aload_n dX5_begin_25 rfl ?_
  refine E_iconst (v := 0) dX5_begin_26 (by decide) ?_
  refine E_puti (fs2 := [.ref 27, .int 0, .int (-6), .int (-6), .int 0, .int y4, .int y5]) (L2 := [(1, .inr (0, [.ref 2, .ref 3, .ref 4, .int (skn s), .int (sdr s), .int (swa s), .int (sbu s), .int (sni s)])), (2, .inl (false, 6, sce s)), (3, .inl (false, 6, she s)), (4, .inl (false, 6, stu s)), (26, .inr (5, [.ref 27, .int 0, .int (-6), .int (-6), .int 0, .int y4, .int y5])), (27, .inr (0, [.ref 28, .ref 29, .ref 30, .int (skn s), .int (sdr s), .int (swa s), .int (sbu s), .int (sni s)])), (28, .inl (false, 6, sce s)), (29, .inl (false, 6, she s)), (30, .inl (false, 6, stu s))]) dX5_begin_27 fX5_67 fpX5_4 (by decide) rfl (Nat.le_of_ble_eq_true rfl) rfl rfl ?_
  refine E_aload_n dX5_begin_30 rfl ?_
  refine E_bipush (v := (-6)) dX5_begin_31 (by decide) ?_
  refine E_puti (fs2 := [.ref 27, .int 0, .int (-6), .int (-6), .int 0, .int (-6), .int y5]) (L2 := [(1, .inr (0, [.ref 2, .ref 3, .ref 4, .int (skn s), .int (sdr s), .int (swa s), .int (sbu s), .int (sni s)])), (2, .inl (false, 6, sce s)), (3, .inl (false, 6, she s)), (4, .inl (false, 6, stu s)), (26, .inr (5, [.ref 27, .int 0, .int (-6), .int (-6), .int 0, .int (-6), .int y5])), (27, .inr (0, [.ref 28, .ref 29, .ref 30, .int (skn s), .int (sdr s), .int (swa s), .int (sbu s), .int (sni s)])), (28, .inl (false, 6, sce s)), (29, .inl (false, 6, she s)), (30, .inl (false, 6, stu s))]) dX5_begin_33 fX5_70 fpX5_5 (by decide) rfl (Nat.le_of_ble_eq_true rfl) rfl rfl ?_
  refine E_aload_n dX5_begin_36 rfl ?_
  refine E_bipush (v := (-6)) dX5_begin_37 (by decide) ?_
  refine E_puti (fs2 := [.ref 27, .int 0, .int (-6), .int (-6), .int 0, .int (-6), .int (-6)]) (L2 := [(1, .inr (0, [.ref 2, .ref 3, .ref 4, .int (skn s), .int (sdr s), .int (swa s), .int (sbu s), .int (sni s)])), (2, .inl (false, 6, sce s)), (3, .inl (false, 6, she s)), (4, .inl (false, 6, stu s)), (26, .inr (5, [.ref 27, .int 0, .int (-6), .int (-6), .int 0, .int (-6), .int (-6)])), (27, .inr (0, [.ref 28, .ref 29, .ref 30, .int (skn s), .int (sdr s), .int (swa s), .int (sbu s), .int (sni s)])), (28, .inl (false, 6, sce s)), (29, .inl (false, 6, she s)), (30, .inl (false, 6, stu s))]) dX5_begin_39 fX5_73 fpX5_6 (by decide) rfl (Nat.le_of_ble_eq_true rfl) rfl rfl ?_
  exact E_vretf dX5_begin_42 rfl rfl

set_option maxHeartbeats 4000000 in
set_option maxRecDepth 20000 in
theorem c_noteFlares (d : Nat) (a x y1 y2 y3 g h : Int32) : FC YX5_noteFlares (d + 1) [.ref 26, .int x, .null] [(26, .inr (5, [.ref 27, .int a, .int y1, .int y2, .int y3, .int g, .int h]))] (none) [(26, .inr (5, [.ref 27, .int a, .int y1, .int y2, .int (y3 + bcI x), .int (ntG a x g h), .int (ntH a x g h)]))] := by
  intro hp
  refine E_aload_n dX5_noteFlares_0 rfl ?_
  refine E_dup dX5_noteFlares_1 rfl ?_
  refine E_get dX5_noteFlares_2 fX5_67 (by decide) rfl rfl ?_
  refine E_iload_n dX5_noteFlares_5 rfl ?_
  refine E_callS (As := [.int x]) (l' := [.int x]) (st := [.int y3, .ref 26]) dX5_noteFlares_6 kX5_76 sJ6_bitCount_0f7a4 MJ6_bitCount_0f7a4 rfl rfl (Nat.le_of_ble_eq_true rfl) (FC.use (c_bitCount d _) rfl (L2 := [(26, .inr (5, [.ref 27, .int a, .int y1, .int y2, .int y3, .int g, .int h]))]) rfl) (Nat.le_of_ble_eq_true rfl) (fun _ _ hq9 => E_fgo ?_ hq9)
  show E _ _ 9 [.ref 26, .int x, .null] [.int (bcI x), .int y3, .ref 26] (hov hp [(26, .inr (5, [.ref 27, .int a, .int y1, .int y2, .int y3, .int g, .int h]))]) _
  refine E_iadd dX5_noteFlares_9 ?_
  refine E_puti (fs2 := [.ref 27, .int a, .int y1, .int y2, .int (y3 + (bcI x)), .int g, .int h]) (L2 := [(26, .inr (5, [.ref 27, .int a, .int y1, .int y2, .int (y3 + (bcI x)), .int g, .int h]))]) dX5_noteFlares_10 fX5_67 fpX5_4 (by decide) rfl (Nat.le_of_ble_eq_true rfl) rfl rfl ?_
  refine E_iconst (v := 0) dX5_noteFlares_13 (by decide) ?_
  refine E_istore_n (l2 := [.ref 26, .int x, .int 0]) dX5_noteFlares_14 rfl (by decide) rfl ?_
  have L15 : ∀ i, i ≤ 6 → E YX5_noteFlares (d + 1) 15 [.ref 26, .int x, .int (nI i)] [] (hov hp [(26, .inr (5, [.ref 27, .int a, .int y1, .int y2, .int (y3 + bcI x), .int ((nt a x g h i).1), .int ((nt a x g h i).2)]))]) (fun v h' => v = none ∧ h' = hov hp [(26, .inr (5, [.ref 27, .int a, .int y1, .int y2, .int (y3 + bcI x), .int (ntG a x g h), .int (ntH a x g h)]))]) := by
    refine down 6 ?_ ?_
    · refine E_iload_n dX5_noteFlares_15 rfl ?_
      refine E_bipush (v := 6) dX5_noteFlares_16 (by decide) ?_
      refine E_icmp_ge (tgt := 57) dX5_noteFlares_18 (by decide) (fun _ => ?_) (fun c => absurd (by decide) c)
      exact E_vretf dX5_noteFlares_57 rfl rfl
    · intro i hi ih
      refine E_iload_n dX5_noteFlares_15 rfl ?_
      refine E_bipush (v := 6) dX5_noteFlares_16 (by decide) ?_
      refine E_icmp_ge (tgt := 57) dX5_noteFlares_18 (by decide) (fun c => absurd c (cI_nle (n := 6) rfl hi (by decide))) (fun _ => ?_)
      refine E_aload_n dX5_noteFlares_21 rfl ?_
      refine E_get dX5_noteFlares_22 fX5_70 (by decide) rfl rfl ?_
      refine E_bipush (v := (-6)) dX5_noteFlares_25 (by decide) ?_
      refine E_icmp_ne (tgt := 57) dX5_noteFlares_27 (by decide) (fun c27 => ?_) (fun c27 => ?_)
      · exact E_vretf dX5_noteFlares_57 rfl (by have e := nt_fix c27 (6 - i); rw [show i + (6 - i) = 6 by omega] at e; rw [ntG, ntH, e])
      · refine E_iload_n dX5_noteFlares_30 rfl ?_
        refine E_iload_n dX5_noteFlares_31 rfl ?_
        refine E_callN (As := [.int x, .int (nI i)]) (l' := [.int x, .int (nI i)]) (st := []) dX5_noteFlares_32 nX5_81 sX6_hasBit MX6_hasBit rfl rfl (Nat.le_of_ble_eq_true rfl) (FC.use (c_hasBit d _ _) rfl (L2 := [(26, .inr (5, [.ref 27, .int a, .int y1, .int y2, .int (y3 + bcI x), .int ((nt a x g h i).1), .int ((nt a x g h i).2)]))]) rfl) (Nat.le_of_ble_eq_true rfl) (fun _ _ hq9 => E_fgo ?_ hq9)
        show E _ _ 35 [.ref 26, .int x, .int (nI i)] [.int (b2i (hbt x (nI i)))] (hov hp [(26, .inr (5, [.ref 27, .int a, .int y1, .int y2, .int (y3 + bcI x), .int ((nt a x g h i).1), .int ((nt a x g h i).2)]))]) _
        refine E_if_eq (tgt := 51) dX5_noteFlares_35 (by decide) (fun c35 => ?_) (fun c35 => ?_)
        · have c35 := b2i_e0 c35
          refine E_iinc (y := nI (i + 1)) (l2 := [.ref 26, .int x, .int (nI (i + 1))]) dX5_noteFlares_51 rfl (nI_1 _) (by decide) rfl ?_
          refine E_goto (tgt := 15) dX5_noteFlares_54 (by decide) ?_
          rw [show nt a x g h (i + 1) = nt a x g h i from by simp [nt, c27, c35]] at ih
          exact ih
        · have c35 := b2i_n0 c35
          refine E_aload_n dX5_noteFlares_38 rfl ?_
          refine E_aload_n dX5_noteFlares_39 rfl ?_
          refine E_get dX5_noteFlares_40 fX5_48 (by decide) rfl rfl ?_
          refine E_puti (fs2 := [.ref 27, .int a, .int y1, .int y2, .int (y3 + bcI x), .int a, .int ((nt a x g h i).2)]) (L2 := [(26, .inr (5, [.ref 27, .int a, .int y1, .int y2, .int (y3 + bcI x), .int a, .int ((nt a x g h i).2)]))]) dX5_noteFlares_43 fX5_70 fpX5_5 (by decide) rfl (Nat.le_of_ble_eq_true rfl) rfl rfl ?_
          refine E_aload_n dX5_noteFlares_46 rfl ?_
          refine E_iload_n dX5_noteFlares_47 rfl ?_
          refine E_puti (fs2 := [.ref 27, .int a, .int y1, .int y2, .int (y3 + bcI x), .int a, .int (nI i)]) (L2 := [(26, .inr (5, [.ref 27, .int a, .int y1, .int y2, .int (y3 + bcI x), .int a, .int (nI i)]))]) dX5_noteFlares_48 fX5_73 fpX5_6 (by decide) rfl (Nat.le_of_ble_eq_true rfl) rfl rfl ?_
          refine E_iinc (y := nI (i + 1)) (l2 := [.ref 26, .int x, .int (nI (i + 1))]) dX5_noteFlares_51 rfl (nI_1 _) (by decide) rfl ?_
          refine E_goto (tgt := 15) dX5_noteFlares_54 (by decide) ?_
          rw [show nt a x g h (i + 1) = (a, nI i) from by simp [nt, c27, c35]] at ih
          exact ih
  exact L15 0 (by decide)

set_option maxHeartbeats 4000000 in
set_option maxRecDepth 20000 in
theorem c_tryOut_fault (d : Nat) (f : Nat → Int32) (n : Nat) (hn : n ≤ 60) (t s : CS) (hA : Agr t s) (y0 y1 y2 y3 y4 y5 : Int32) (hf : ¬ flt f n 0 false = -6) : FC YX5_tryOut (d + 5) [.ref 26, .ref 5, .ref 1, .null, .null, .null, .null, .null, .null] [(1, .inr (0, [.ref 2, .ref 3, .ref 4, .int (skn s), .int (sdr s), .int (swa s), .int (sbu s), .int (sni s)])), (2, .inl (false, 6, sce s)), (3, .inl (false, 6, she s)), (4, .inl (false, 6, stu s)), (5, .inr (3, [.ref 6, .int (nI n)])), (6, .inl (false, 60, f)), (26, .inr (5, [.ref 27, .int y0, .int y1, .int y2, .int y3, .int y4, .int y5])), (27, .inr (0, [.ref 28, .ref 29, .ref 30, .int (skn t), .int (sdr t), .int (swa t), .int (sbu t), .int (sni t)])), (28, .inl (false, 6, sce t)), (29, .inl (false, 6, she t)), (30, .inl (false, 6, stu t))] (some (.int (b2i false))) [(1, .inr (0, [.ref 2, .ref 3, .ref 4, .int (skn s), .int (sdr s), .int (swa s), .int (sbu s), .int (sni s)])), (2, .inl (false, 6, sce s)), (3, .inl (false, 6, she s)), (4, .inl (false, 6, stu s)), (5, .inr (3, [.ref 6, .int (nI n)])), (6, .inl (false, 60, f)), (26, .inr (5, [.ref 27, .int 0, .int (-6), .int (-6), .int 0, .int (-6), .int (-6)])), (27, .inr (0, [.ref 28, .ref 29, .ref 30, .int (skn s), .int (sdr s), .int (swa s), .int (sbu s), .int (sni s)])), (28, .inl (false, 6, sce s)), (29, .inl (false, 6, she s)), (30, .inl (false, 6, stu s))] := by
  intro hp
  refine E_aload_n dX5_tryOut_0 rfl ?_
  refine E_aload_n dX5_tryOut_1 rfl ?_
  refine E_callV (As := [.ref 1]) (l' := [.ref 26, .ref 1]) (st := []) dX5_tryOut_2 kX5_18 iX5_begin vX5_begin (by decide) rfl rfl MX5_begin rfl rfl (Nat.le_of_ble_eq_true rfl) (FC.use (c_begin (d + 3) t s hA y0 y1 y2 y3 y4 y5) rfl (L2 := [(1, .inr (0, [.ref 2, .ref 3, .ref 4, .int (skn s), .int (sdr s), .int (swa s), .int (sbu s), .int (sni s)])), (2, .inl (false, 6, sce s)), (3, .inl (false, 6, she s)), (4, .inl (false, 6, stu s)), (5, .inr (3, [.ref 6, .int (nI n)])), (6, .inl (false, 60, f)), (26, .inr (5, [.ref 27, .int 0, .int (-6), .int (-6), .int 0, .int (-6), .int (-6)])), (27, .inr (0, [.ref 28, .ref 29, .ref 30, .int (skn s), .int (sdr s), .int (swa s), .int (sbu s), .int (sni s)])), (28, .inl (false, 6, sce s)), (29, .inl (false, 6, she s)), (30, .inl (false, 6, stu s))]) rfl) (Nat.le_of_ble_eq_true rfl) (fun _ _ hq9 => E_fgo ?_ hq9)
  show E _ _ 5 [.ref 26, .ref 5, .ref 1, .null, .null, .null, .null, .null, .null] [] (hov hp [(1, .inr (0, [.ref 2, .ref 3, .ref 4, .int (skn s), .int (sdr s), .int (swa s), .int (sbu s), .int (sni s)])), (2, .inl (false, 6, sce s)), (3, .inl (false, 6, she s)), (4, .inl (false, 6, stu s)), (5, .inr (3, [.ref 6, .int (nI n)])), (6, .inl (false, 60, f)), (26, .inr (5, [.ref 27, .int 0, .int (-6), .int (-6), .int 0, .int (-6), .int (-6)])), (27, .inr (0, [.ref 28, .ref 29, .ref 30, .int (skn s), .int (sdr s), .int (swa s), .int (sbu s), .int (sni s)])), (28, .inl (false, 6, sce s)), (29, .inl (false, 6, she s)), (30, .inl (false, 6, stu s))]) _
  refine E_aload_n dX5_tryOut_5 rfl ?_
  refine E_callV (As := []) (l' := [.ref 5, .null, .null, .null, .null]) (st := []) dX5_tryOut_6 kX5_22 iX3_faultPlace vX3_faultPlace (by decide) rfl rfl MX3_faultPlace rfl rfl (Nat.le_of_ble_eq_true rfl) (FC.use (c_faultPlace (d + 1) f n hn) rfl (L2 := [(1, .inr (0, [.ref 2, .ref 3, .ref 4, .int (skn s), .int (sdr s), .int (swa s), .int (sbu s), .int (sni s)])), (2, .inl (false, 6, sce s)), (3, .inl (false, 6, she s)), (4, .inl (false, 6, stu s)), (5, .inr (3, [.ref 6, .int (nI n)])), (6, .inl (false, 60, f)), (26, .inr (5, [.ref 27, .int 0, .int (-6), .int (-6), .int 0, .int (-6), .int (-6)])), (27, .inr (0, [.ref 28, .ref 29, .ref 30, .int (skn s), .int (sdr s), .int (swa s), .int (sbu s), .int (sni s)])), (28, .inl (false, 6, sce s)), (29, .inl (false, 6, she s)), (30, .inl (false, 6, stu s))]) rfl) (Nat.le_of_ble_eq_true rfl) (fun _ _ hq9 => E_fgo ?_ hq9)
  show E _ _ 9 [.ref 26, .ref 5, .ref 1, .null, .null, .null, .null, .null, .null] [.int (flt f n 0 false)] (hov hp [(1, .inr (0, [.ref 2, .ref 3, .ref 4, .int (skn s), .int (sdr s), .int (swa s), .int (sbu s), .int (sni s)])), (2, .inl (false, 6, sce s)), (3, .inl (false, 6, she s)), (4, .inl (false, 6, stu s)), (5, .inr (3, [.ref 6, .int (nI n)])), (6, .inl (false, 60, f)), (26, .inr (5, [.ref 27, .int 0, .int (-6), .int (-6), .int 0, .int (-6), .int (-6)])), (27, .inr (0, [.ref 28, .ref 29, .ref 30, .int (skn s), .int (sdr s), .int (swa s), .int (sbu s), .int (sni s)])), (28, .inl (false, 6, sce s)), (29, .inl (false, 6, she s)), (30, .inl (false, 6, stu s))]) _
  refine E_bipush (v := (-6)) dX5_tryOut_9 (by decide) ?_
  refine E_icmp_eq (tgt := 16) dX5_tryOut_11 (by decide) (fun c => absurd c hf) (fun _ => ?_)
  refine E_iconst (v := 0) dX5_tryOut_14 (by decide) ?_
  exact E_iretf dX5_tryOut_15 rfl (b2i_nar _) rfl rfl

theorem nI_m6 {p : Nat} (h : p < 100) : ¬ nI p = -6 := by
  intro e
  have h1 : (nI p).toInt = (-6 : Int32).toInt := by rw [e]
  rw [nI_toInt (by omega)] at h1
  have : (-6 : Int32).toInt = -6 := by decide
  omega
set_option maxHeartbeats 4000000 in
set_option maxRecDepth 20000 in
theorem c_reasonN (d : Nat) (s : CS) (h cl : Int32) : FC YX0_reasonAgainst (d + 1) [.ref 27, .int 5, .int h, .int cl] [(27, .inr (0, [.ref 28, .ref 29, .ref 30, .int (skn s), .int (sdr s), .int (swa s), .int (sbu s), .int (sni s)])), (28, .inl (false, 6, sce s)), (29, .inl (false, 6, she s)), (30, .inl (false, 6, stu s))] (some (.int (rsn s 5 0 0))) [(27, .inr (0, [.ref 28, .ref 29, .ref 30, .int (skn s), .int (sdr s), .int (swa s), .int (sbu s), .int (sni s)])), (28, .inl (false, 6, sce s)), (29, .inl (false, 6, she s)), (30, .inl (false, 6, stu s))] := by
  intro hp
  refine E_iload_n dX0_reasonAgainst_0 rfl ?_
  refine E_iconst (v := 5) dX0_reasonAgainst_1 (by decide) ?_
  refine E_icmp_ne (tgt := 21) dX0_reasonAgainst_2 (by decide) (fun c => absurd rfl c) (fun _ => ?_)
  refine E_aload_n dX0_reasonAgainst_5 rfl ?_
  refine E_get dX0_reasonAgainst_6 fX0_34 (by decide) rfl rfl ?_
  refine E_bipush (v := 99) dX0_reasonAgainst_9 (by decide) ?_
  refine E_icmp_lt (tgt := 19) dX0_reasonAgainst_11 (by decide) (fun c11 => ?_) (fun c11 => ?_)
  · refine E_iconst (v := 0) dX0_reasonAgainst_19 (by decide) ?_
    exact E_iretf dX0_reasonAgainst_20 rfl rfl (by simp [rsn, c11]) rfl
  · refine E_bipush (v := 7) dX0_reasonAgainst_14 (by decide) ?_
    refine E_goto (tgt := 20) dX0_reasonAgainst_16 (by decide) ?_
    exact E_iretf dX0_reasonAgainst_20 rfl rfl (by simp [rsn, c11]) rfl

set_option maxHeartbeats 4000000 in
set_option maxRecDepth 20000 in
theorem c_performN (d : Nat) (s : CS) (h cl : Int32) : FC YX0_perform (d + 4) [.ref 27, .int 5, .int h, .int cl] [(27, .inr (0, [.ref 28, .ref 29, .ref 30, .int (skn s), .int (sdr s), .int (swa s), .int (sbu s), .int (sni s)])), (28, .inl (false, 6, sce s)), (29, .inl (false, 6, she s)), (30, .inl (false, 6, stu s))] (some (.int (prF s 5))) [(27, .inr (0, [.ref 28, .ref 29, .ref 30, .int (skn (prS s 5 0 0)), .int (sdr (prS s 5 0 0)), .int (swa (prS s 5 0 0)), .int (sbu (prS s 5 0 0)), .int (sni (prS s 5 0 0))])), (28, .inl (false, 6, sce (prS s 5 0 0))), (29, .inl (false, 6, she (prS s 5 0 0))), (30, .inl (false, 6, stu (prS s 5 0 0)))] := by
  intro hp
  refine E_iload_n dX0_perform_0 rfl ?_
  refine E_tableOut (tgt := 106) dX0_perform_1 (by decide) (by decide) ?_
  refine E_aload_n dX0_perform_106 rfl ?_
  refine E_callV (As := []) (l' := [.ref 27, .null, .null]) (st := []) dX0_perform_107 kX0_69 iX0_passNight vX0_passNight (by decide) rfl rfl MX0_passNight rfl rfl (Nat.le_of_ble_eq_true rfl) (FC.use (c_passNight d s) rfl (L2 := [(27, .inr (0, [.ref 28, .ref 29, .ref 30, .int (skn (ngS s)), .int (sdr (ngS s)), .int (swa (ngS s)), .int (sbu (ngS s)), .int (sni (ngS s))])), (28, .inl (false, 6, sce (ngS s))), (29, .inl (false, 6, she (ngS s))), (30, .inl (false, 6, stu (ngS s)))]) rfl) (Nat.le_of_ble_eq_true rfl) (fun _ _ hq9 => E_fgo ?_ hq9)
  show E _ _ 110 [.ref 27, .int 5, .int h, .int cl] [.int (ngF s)] (hov hp [(27, .inr (0, [.ref 28, .ref 29, .ref 30, .int (skn (ngS s)), .int (sdr (ngS s)), .int (swa (ngS s)), .int (sbu (ngS s)), .int (sni (ngS s))])), (28, .inl (false, 6, sce (ngS s))), (29, .inl (false, 6, she (ngS s))), (30, .inl (false, 6, stu (ngS s)))]) _
  exact E_iretf dX0_perform_110 rfl rfl rfl rfl

set_option maxHeartbeats 4000000 in
set_option maxRecDepth 20000 in
theorem c_tryOut_ok (d : Nat) (f : Nat → Int32) (n : Nat) (hn : n ≤ 60) (t s : CS) (hA : Agr t s) (y0 y1 y2 y3 y4 y5 : Int32) (hf : flt f n 0 false = -6) : FC YX5_tryOut (d + 5) [.ref 26, .ref 5, .ref 1, .null, .null, .null, .null, .null, .null] [(1, .inr (0, [.ref 2, .ref 3, .ref 4, .int (skn s), .int (sdr s), .int (swa s), .int (sbu s), .int (sni s)])), (2, .inl (false, 6, sce s)), (3, .inl (false, 6, she s)), (4, .inl (false, 6, stu s)), (5, .inr (3, [.ref 6, .int (nI n)])), (6, .inl (false, 60, f)), (26, .inr (5, [.ref 27, .int y0, .int y1, .int y2, .int y3, .int y4, .int y5])), (27, .inr (0, [.ref 28, .ref 29, .ref 30, .int (skn t), .int (sdr t), .int (swa t), .int (sbu t), .int (sni t)])), (28, .inl (false, 6, sce t)), (29, .inl (false, 6, she t)), (30, .inl (false, 6, stu t))] (some (.int (b2i (decide ((wk f n 0 (wk0 s)).2 = 0))))) [(1, .inr (0, [.ref 2, .ref 3, .ref 4, .int (skn s), .int (sdr s), .int (swa s), .int (sbu s), .int (sni s)])), (2, .inl (false, 6, sce s)), (3, .inl (false, 6, she s)), (4, .inl (false, 6, stu s)), (5, .inr (3, [.ref 6, .int (nI n)])), (6, .inl (false, 60, f)), (26, .inr (5, [.ref 27, .int (nI (wA ((wk f n 0 (wk0 s)).1))), .int (stA (wk f n 0 (wk0 s))), .int (stW (wk f n 0 (wk0 s))), .int (wF ((wk f n 0 (wk0 s)).1)), .int (wG ((wk f n 0 (wk0 s)).1)), .int (wH ((wk f n 0 (wk0 s)).1))])), (27, .inr (0, [.ref 28, .ref 29, .ref 30, .int (skn (wS ((wk f n 0 (wk0 s)).1))), .int (sdr (wS ((wk f n 0 (wk0 s)).1))), .int (swa (wS ((wk f n 0 (wk0 s)).1))), .int (sbu (wS ((wk f n 0 (wk0 s)).1))), .int (sni (wS ((wk f n 0 (wk0 s)).1)))])), (28, .inl (false, 6, sce (wS ((wk f n 0 (wk0 s)).1)))), (29, .inl (false, 6, she (wS ((wk f n 0 (wk0 s)).1)))), (30, .inl (false, 6, stu (wS ((wk f n 0 (wk0 s)).1))))] := by
  intro hp
  refine E_aload_n dX5_tryOut_0 rfl ?_
  refine E_aload_n dX5_tryOut_1 rfl ?_
  refine E_callV (As := [.ref 1]) (l' := [.ref 26, .ref 1]) (st := []) dX5_tryOut_2 kX5_18 iX5_begin vX5_begin (by decide) rfl rfl MX5_begin rfl rfl (Nat.le_of_ble_eq_true rfl) (FC.use (c_begin (d + 3) t s hA y0 y1 y2 y3 y4 y5) rfl (L2 := [(1, .inr (0, [.ref 2, .ref 3, .ref 4, .int (skn s), .int (sdr s), .int (swa s), .int (sbu s), .int (sni s)])), (2, .inl (false, 6, sce s)), (3, .inl (false, 6, she s)), (4, .inl (false, 6, stu s)), (5, .inr (3, [.ref 6, .int (nI n)])), (6, .inl (false, 60, f)), (26, .inr (5, [.ref 27, .int 0, .int (-6), .int (-6), .int 0, .int (-6), .int (-6)])), (27, .inr (0, [.ref 28, .ref 29, .ref 30, .int (skn s), .int (sdr s), .int (swa s), .int (sbu s), .int (sni s)])), (28, .inl (false, 6, sce s)), (29, .inl (false, 6, she s)), (30, .inl (false, 6, stu s))]) rfl) (Nat.le_of_ble_eq_true rfl) (fun _ _ hq9 => E_fgo ?_ hq9)
  show E _ _ 5 [.ref 26, .ref 5, .ref 1, .null, .null, .null, .null, .null, .null] [] (hov hp [(1, .inr (0, [.ref 2, .ref 3, .ref 4, .int (skn s), .int (sdr s), .int (swa s), .int (sbu s), .int (sni s)])), (2, .inl (false, 6, sce s)), (3, .inl (false, 6, she s)), (4, .inl (false, 6, stu s)), (5, .inr (3, [.ref 6, .int (nI n)])), (6, .inl (false, 60, f)), (26, .inr (5, [.ref 27, .int 0, .int (-6), .int (-6), .int 0, .int (-6), .int (-6)])), (27, .inr (0, [.ref 28, .ref 29, .ref 30, .int (skn s), .int (sdr s), .int (swa s), .int (sbu s), .int (sni s)])), (28, .inl (false, 6, sce s)), (29, .inl (false, 6, she s)), (30, .inl (false, 6, stu s))]) _
  refine E_aload_n dX5_tryOut_5 rfl ?_
  refine E_callV (As := []) (l' := [.ref 5, .null, .null, .null, .null]) (st := []) dX5_tryOut_6 kX5_22 iX3_faultPlace vX3_faultPlace (by decide) rfl rfl MX3_faultPlace rfl rfl (Nat.le_of_ble_eq_true rfl) (FC.use (c_faultPlace (d + 1) f n hn) rfl (L2 := [(1, .inr (0, [.ref 2, .ref 3, .ref 4, .int (skn s), .int (sdr s), .int (swa s), .int (sbu s), .int (sni s)])), (2, .inl (false, 6, sce s)), (3, .inl (false, 6, she s)), (4, .inl (false, 6, stu s)), (5, .inr (3, [.ref 6, .int (nI n)])), (6, .inl (false, 60, f)), (26, .inr (5, [.ref 27, .int 0, .int (-6), .int (-6), .int 0, .int (-6), .int (-6)])), (27, .inr (0, [.ref 28, .ref 29, .ref 30, .int (skn s), .int (sdr s), .int (swa s), .int (sbu s), .int (sni s)])), (28, .inl (false, 6, sce s)), (29, .inl (false, 6, she s)), (30, .inl (false, 6, stu s))]) rfl) (Nat.le_of_ble_eq_true rfl) (fun _ _ hq9 => E_fgo ?_ hq9)
  show E _ _ 9 [.ref 26, .ref 5, .ref 1, .null, .null, .null, .null, .null, .null] [.int (flt f n 0 false)] (hov hp [(1, .inr (0, [.ref 2, .ref 3, .ref 4, .int (skn s), .int (sdr s), .int (swa s), .int (sbu s), .int (sni s)])), (2, .inl (false, 6, sce s)), (3, .inl (false, 6, she s)), (4, .inl (false, 6, stu s)), (5, .inr (3, [.ref 6, .int (nI n)])), (6, .inl (false, 60, f)), (26, .inr (5, [.ref 27, .int 0, .int (-6), .int (-6), .int 0, .int (-6), .int (-6)])), (27, .inr (0, [.ref 28, .ref 29, .ref 30, .int (skn s), .int (sdr s), .int (swa s), .int (sbu s), .int (sni s)])), (28, .inl (false, 6, sce s)), (29, .inl (false, 6, she s)), (30, .inl (false, 6, stu s))]) _
  refine E_bipush (v := (-6)) dX5_tryOut_9 (by decide) ?_
  refine E_icmp_eq (tgt := 16) dX5_tryOut_11 (by decide) (fun _ => ?_) (fun c => absurd hf c)
  refine E_iconst (v := 0) dX5_tryOut_16 (by decide) ?_
  refine E_istore_n (l2 := [.ref 26, .ref 5, .ref 1, .int 0, .null, .null, .null, .null, .null]) dX5_tryOut_17 rfl (by decide) rfl ?_
  refine E_iconst (v := 0) dX5_tryOut_18 (by decide) ?_
  refine E_istore (l2 := [.ref 26, .ref 5, .ref 1, .int 0, .int 0, .null, .null, .null, .null]) dX5_tryOut_19 (by decide) rfl ?_
  have L : ∀ (k p : Nat) (w : WS) (l3 : Int32) (l5 l6 l7 l8 : Value), p + k = n → flt f k p false = -6 → wk f k p w = (wk f n 0 (wk0 s)) → E YX5_tryOut (d + 5) 21 [.ref 26, .ref 5, .ref 1, .int l3, .int (nI p), l5, l6, l7, l8] [] (hov hp [(1, .inr (0, [.ref 2, .ref 3, .ref 4, .int (skn s), .int (sdr s), .int (swa s), .int (sbu s), .int (sni s)])), (2, .inl (false, 6, sce s)), (3, .inl (false, 6, she s)), (4, .inl (false, 6, stu s)), (5, .inr (3, [.ref 6, .int (nI n)])), (6, .inl (false, 60, f)), (26, .inr (5, [.ref 27, .int (nI (wA w)), .int (-6), .int (-6), .int (wF w), .int (wG w), .int (wH w)])), (27, .inr (0, [.ref 28, .ref 29, .ref 30, .int (skn (wS w)), .int (sdr (wS w)), .int (swa (wS w)), .int (sbu (wS w)), .int (sni (wS w))])), (28, .inl (false, 6, sce (wS w))), (29, .inl (false, 6, she (wS w))), (30, .inl (false, 6, stu (wS w)))]) (fun v h' => v = some (.int (b2i (decide ((wk f n 0 (wk0 s)).2 = 0)))) ∧ h' = hov hp [(1, .inr (0, [.ref 2, .ref 3, .ref 4, .int (skn s), .int (sdr s), .int (swa s), .int (sbu s), .int (sni s)])), (2, .inl (false, 6, sce s)), (3, .inl (false, 6, she s)), (4, .inl (false, 6, stu s)), (5, .inr (3, [.ref 6, .int (nI n)])), (6, .inl (false, 60, f)), (26, .inr (5, [.ref 27, .int (nI (wA ((wk f n 0 (wk0 s)).1))), .int (stA (wk f n 0 (wk0 s))), .int (stW (wk f n 0 (wk0 s))), .int (wF ((wk f n 0 (wk0 s)).1)), .int (wG ((wk f n 0 (wk0 s)).1)), .int (wH ((wk f n 0 (wk0 s)).1))])), (27, .inr (0, [.ref 28, .ref 29, .ref 30, .int (skn (wS ((wk f n 0 (wk0 s)).1))), .int (sdr (wS ((wk f n 0 (wk0 s)).1))), .int (swa (wS ((wk f n 0 (wk0 s)).1))), .int (sbu (wS ((wk f n 0 (wk0 s)).1))), .int (sni (wS ((wk f n 0 (wk0 s)).1)))])), (28, .inl (false, 6, sce (wS ((wk f n 0 (wk0 s)).1)))), (29, .inl (false, 6, she (wS ((wk f n 0 (wk0 s)).1)))), (30, .inl (false, 6, stu (wS ((wk f n 0 (wk0 s)).1))))]) := by
    intro k
    induction k using Nat.strongRecOn with
    | _ k ih =>
    intro p w l3 l5 l6 l7 l8 hpk hfl he
    cases k with
    | zero =>
      have hpk : p = n := by omega
      subst hpk
      refine E_iload dX5_tryOut_21 rfl ?_
      refine E_aload_n dX5_tryOut_23 rfl ?_
      refine E_get dX5_tryOut_24 fX5_28 (by decide) rfl rfl ?_
      refine E_icmp_ge (tgt := 144) dX5_tryOut_27 (by decide) (fun _ => ?_) (fun c => absurd (nI_le (Nat.le_refl _) (by omega)) c)
      refine E_iconst (v := 1) dX5_tryOut_144 (by decide) ?_
      exact E_iretf dX5_tryOut_145 rfl (b2i_nar _) (by rw [← he]; rfl) (by rw [← he]; rfl)
    | succ k =>
      have hlt : p < n := by omega
      have hok : okS false (f p) = true := by
        cases h : okS false (f p) with
        | true => rfl
        | false => rw [flt_no h] at hfl; exact absurd hfl (nI_m6 (by omega))
      by_cases h46 : f p = 46
      · have hl : letB (f p) = false := by rw [h46]; rfl
        rw [flt_ok hok, hl] at hfl
        refine E_iload dX5_tryOut_21 rfl ?_
        refine E_aload_n dX5_tryOut_23 rfl ?_
        refine E_get dX5_tryOut_24 fX5_28 (by decide) rfl rfl ?_
        refine E_icmp_ge (tgt := 144) dX5_tryOut_27 (by decide) (fun c => absurd c (nI_ge (by omega) (by omega))) (fun _ => ?_)
        refine E_iload dX5_tryOut_30 rfl ?_
        refine E_bipush (v := 60) dX5_tryOut_32 (by decide) ?_
        refine E_icmp_ge (tgt := 144) dX5_tryOut_34 (by decide) (fun c => absurd c (cI_nle (n := 60) rfl (by omega) (by decide))) (fun _ => ?_)
        refine E_aload_n dX5_tryOut_37 rfl ?_
        refine E_get dX5_tryOut_38 fX5_32 (by decide) rfl rfl ?_
        refine E_iload dX5_tryOut_41 rfl ?_
        refine E_ialdN (j := p) dX5_tryOut_43 (by decide) rfl (by omega) (by decide) ?_
        refine E_eqi (y := 46) h46 ?_
        refine E_istore (l2 := [.ref 26, .ref 5, .ref 1, .int l3, .int (nI p), .int 46, l6, l7, l8]) dX5_tryOut_44 (by decide) rfl ?_
        refine E_iload dX5_tryOut_46 rfl ?_
        refine E_callS (As := [.int 46]) (l' := [.int 46]) (st := []) dX5_tryOut_48 kX5_36 sX3_isHeapLetter MX3_isHeapLetter rfl rfl (Nat.le_of_ble_eq_true rfl) (FC.use (c_isHeapLetter (d + 3) _) rfl (L2 := [(1, .inr (0, [.ref 2, .ref 3, .ref 4, .int (skn s), .int (sdr s), .int (swa s), .int (sbu s), .int (sni s)])), (2, .inl (false, 6, sce s)), (3, .inl (false, 6, she s)), (4, .inl (false, 6, stu s)), (5, .inr (3, [.ref 6, .int (nI n)])), (6, .inl (false, 60, f)), (26, .inr (5, [.ref 27, .int (nI (wA w)), .int (-6), .int (-6), .int (wF w), .int (wG w), .int (wH w)])), (27, .inr (0, [.ref 28, .ref 29, .ref 30, .int (skn (wS w)), .int (sdr (wS w)), .int (swa (wS w)), .int (sbu (wS w)), .int (sni (wS w))])), (28, .inl (false, 6, sce (wS w))), (29, .inl (false, 6, she (wS w))), (30, .inl (false, 6, stu (wS w)))]) rfl) (Nat.le_of_ble_eq_true rfl) (fun _ _ hq9 => E_fgo ?_ hq9)
        show E _ _ 51 [.ref 26, .ref 5, .ref 1, .int l3, .int (nI p), .int 46, l6, l7, l8] [.int (b2i (letB 46))] (hov hp [(1, .inr (0, [.ref 2, .ref 3, .ref 4, .int (skn s), .int (sdr s), .int (swa s), .int (sbu s), .int (sni s)])), (2, .inl (false, 6, sce s)), (3, .inl (false, 6, she s)), (4, .inl (false, 6, stu s)), (5, .inr (3, [.ref 6, .int (nI n)])), (6, .inl (false, 60, f)), (26, .inr (5, [.ref 27, .int (nI (wA w)), .int (-6), .int (-6), .int (wF w), .int (wG w), .int (wH w)])), (27, .inr (0, [.ref 28, .ref 29, .ref 30, .int (skn (wS w)), .int (sdr (wS w)), .int (swa (wS w)), .int (sbu (wS w)), .int (sni (wS w))])), (28, .inl (false, 6, sce (wS w))), (29, .inl (false, 6, she (wS w))), (30, .inl (false, 6, stu (wS w)))]) _
        refine E_if_eq (tgt := 63) dX5_tryOut_51 (by decide) (fun _ => ?_) (fun c => absurd (by rfl) c)
        refine E_iload dX5_tryOut_63 rfl ?_
        refine E_callS (As := [.int 46]) (l' := [.int 46]) (st := []) dX5_tryOut_65 kX5_40 sX3_kindOf MX3_kindOf rfl rfl (Nat.le_of_ble_eq_true rfl) (FC.use (c_kind_46 (d + 4)) rfl (L2 := [(1, .inr (0, [.ref 2, .ref 3, .ref 4, .int (skn s), .int (sdr s), .int (swa s), .int (sbu s), .int (sni s)])), (2, .inl (false, 6, sce s)), (3, .inl (false, 6, she s)), (4, .inl (false, 6, stu s)), (5, .inr (3, [.ref 6, .int (nI n)])), (6, .inl (false, 60, f)), (26, .inr (5, [.ref 27, .int (nI (wA w)), .int (-6), .int (-6), .int (wF w), .int (wG w), .int (wH w)])), (27, .inr (0, [.ref 28, .ref 29, .ref 30, .int (skn (wS w)), .int (sdr (wS w)), .int (swa (wS w)), .int (sbu (wS w)), .int (sni (wS w))])), (28, .inl (false, 6, sce (wS w))), (29, .inl (false, 6, she (wS w))), (30, .inl (false, 6, stu (wS w)))]) rfl) (Nat.le_of_ble_eq_true rfl) (fun _ _ hq9 => E_fgo ?_ hq9)
        show E _ _ 68 [.ref 26, .ref 5, .ref 1, .int l3, .int (nI p), .int 46, l6, l7, l8] [.int 5] (hov hp [(1, .inr (0, [.ref 2, .ref 3, .ref 4, .int (skn s), .int (sdr s), .int (swa s), .int (sbu s), .int (sni s)])), (2, .inl (false, 6, sce s)), (3, .inl (false, 6, she s)), (4, .inl (false, 6, stu s)), (5, .inr (3, [.ref 6, .int (nI n)])), (6, .inl (false, 60, f)), (26, .inr (5, [.ref 27, .int (nI (wA w)), .int (-6), .int (-6), .int (wF w), .int (wG w), .int (wH w)])), (27, .inr (0, [.ref 28, .ref 29, .ref 30, .int (skn (wS w)), .int (sdr (wS w)), .int (swa (wS w)), .int (sbu (wS w)), .int (sni (wS w))])), (28, .inl (false, 6, sce (wS w))), (29, .inl (false, 6, she (wS w))), (30, .inl (false, 6, stu (wS w)))]) _
        refine E_istore (l2 := [.ref 26, .ref 5, .ref 1, .int l3, .int (nI p), .int 46, .int 5, l7, l8]) dX5_tryOut_68 (by decide) rfl ?_
        refine E_iload dX5_tryOut_70 rfl ?_
        refine E_bipush (v := 97) dX5_tryOut_72 (by decide) ?_
        refine E_isub dX5_tryOut_74 ?_
        refine E_eqi (y := (-51)) (by decide) ?_
        refine E_istore (l2 := [.ref 26, .ref 5, .ref 1, .int l3, .int (nI p), .int 46, .int 5, .int (-51), l8]) dX5_tryOut_75 (by decide) rfl ?_
        refine E_aload_n dX5_tryOut_77 rfl ?_
        refine E_get dX5_tryOut_78 fX5_12 (by decide) rfl rfl ?_
        refine E_iload dX5_tryOut_81 rfl ?_
        refine E_iload_n dX5_tryOut_83 rfl ?_
        refine E_iload dX5_tryOut_84 rfl ?_
        refine E_callV (As := [.int 5, .int l3, .int (-51)]) (l' := [.ref 27, .int 5, .int l3, .int (-51)]) (st := []) dX5_tryOut_86 kX5_44 iX0_reasonAgainst vX0_reasonAgainst (by decide) rfl rfl MX0_reasonAgainst rfl rfl (Nat.le_of_ble_eq_true rfl) (FC.use (c_reasonN (d + 3) (wS w) l3 (-51)) rfl (L2 := [(1, .inr (0, [.ref 2, .ref 3, .ref 4, .int (skn s), .int (sdr s), .int (swa s), .int (sbu s), .int (sni s)])), (2, .inl (false, 6, sce s)), (3, .inl (false, 6, she s)), (4, .inl (false, 6, stu s)), (5, .inr (3, [.ref 6, .int (nI n)])), (6, .inl (false, 60, f)), (26, .inr (5, [.ref 27, .int (nI (wA w)), .int (-6), .int (-6), .int (wF w), .int (wG w), .int (wH w)])), (27, .inr (0, [.ref 28, .ref 29, .ref 30, .int (skn (wS w)), .int (sdr (wS w)), .int (swa (wS w)), .int (sbu (wS w)), .int (sni (wS w))])), (28, .inl (false, 6, sce (wS w))), (29, .inl (false, 6, she (wS w))), (30, .inl (false, 6, stu (wS w)))]) rfl) (Nat.le_of_ble_eq_true rfl) (fun _ _ hq9 => E_fgo ?_ hq9)
        show E _ _ 89 [.ref 26, .ref 5, .ref 1, .int l3, .int (nI p), .int 46, .int 5, .int (-51), l8] [.int (rsn (wS w) 5 0 0)] (hov hp [(1, .inr (0, [.ref 2, .ref 3, .ref 4, .int (skn s), .int (sdr s), .int (swa s), .int (sbu s), .int (sni s)])), (2, .inl (false, 6, sce s)), (3, .inl (false, 6, she s)), (4, .inl (false, 6, stu s)), (5, .inr (3, [.ref 6, .int (nI n)])), (6, .inl (false, 60, f)), (26, .inr (5, [.ref 27, .int (nI (wA w)), .int (-6), .int (-6), .int (wF w), .int (wG w), .int (wH w)])), (27, .inr (0, [.ref 28, .ref 29, .ref 30, .int (skn (wS w)), .int (sdr (wS w)), .int (swa (wS w)), .int (sbu (wS w)), .int (sni (wS w))])), (28, .inl (false, 6, sce (wS w))), (29, .inl (false, 6, she (wS w))), (30, .inl (false, 6, stu (wS w)))]) _
        refine E_istore (l2 := [.ref 26, .ref 5, .ref 1, .int l3, .int (nI p), .int 46, .int 5, .int (-51), .int (rsn (wS w) 5 0 0)]) dX5_tryOut_89 (by decide) rfl ?_
        refine E_iload dX5_tryOut_91 rfl ?_
        refine E_if_eq (tgt := 112) dX5_tryOut_93 (by decide) (fun c93 => ?_) (fun c93 => ?_)
        · refine E_aload_n dX5_tryOut_112 rfl ?_
          refine E_aload_n dX5_tryOut_113 rfl ?_
          refine E_get dX5_tryOut_114 fX5_12 (by decide) rfl rfl ?_
          refine E_iload dX5_tryOut_117 rfl ?_
          refine E_iload_n dX5_tryOut_119 rfl ?_
          refine E_iload dX5_tryOut_120 rfl ?_
          refine E_callV (As := [.int 5, .int l3, .int (-51)]) (l' := [.ref 27, .int 5, .int l3, .int (-51)]) (st := [.ref 26]) dX5_tryOut_122 kX5_57 iX0_perform vX0_perform (by decide) rfl rfl MX0_perform rfl rfl (Nat.le_of_ble_eq_true rfl) (FC.use (c_performN d (wS w) l3 (-51)) rfl (L2 := [(1, .inr (0, [.ref 2, .ref 3, .ref 4, .int (skn s), .int (sdr s), .int (swa s), .int (sbu s), .int (sni s)])), (2, .inl (false, 6, sce s)), (3, .inl (false, 6, she s)), (4, .inl (false, 6, stu s)), (5, .inr (3, [.ref 6, .int (nI n)])), (6, .inl (false, 60, f)), (26, .inr (5, [.ref 27, .int (nI (wA w)), .int (-6), .int (-6), .int (wF w), .int (wG w), .int (wH w)])), (27, .inr (0, [.ref 28, .ref 29, .ref 30, .int (skn (prS (wS w) 5 0 0)), .int (sdr (prS (wS w) 5 0 0)), .int (swa (prS (wS w) 5 0 0)), .int (sbu (prS (wS w) 5 0 0)), .int (sni (prS (wS w) 5 0 0))])), (28, .inl (false, 6, sce (prS (wS w) 5 0 0))), (29, .inl (false, 6, she (prS (wS w) 5 0 0))), (30, .inl (false, 6, stu (prS (wS w) 5 0 0)))]) rfl) (Nat.le_of_ble_eq_true rfl) (fun _ _ hq9 => E_fgo ?_ hq9)
          show E _ _ 125 [.ref 26, .ref 5, .ref 1, .int l3, .int (nI p), .int 46, .int 5, .int (-51), .int (rsn (wS w) 5 0 0)] [.int (prF (wS w) 5), .ref 26] (hov hp [(1, .inr (0, [.ref 2, .ref 3, .ref 4, .int (skn s), .int (sdr s), .int (swa s), .int (sbu s), .int (sni s)])), (2, .inl (false, 6, sce s)), (3, .inl (false, 6, she s)), (4, .inl (false, 6, stu s)), (5, .inr (3, [.ref 6, .int (nI n)])), (6, .inl (false, 60, f)), (26, .inr (5, [.ref 27, .int (nI (wA w)), .int (-6), .int (-6), .int (wF w), .int (wG w), .int (wH w)])), (27, .inr (0, [.ref 28, .ref 29, .ref 30, .int (skn (prS (wS w) 5 0 0)), .int (sdr (prS (wS w) 5 0 0)), .int (swa (prS (wS w) 5 0 0)), .int (sbu (prS (wS w) 5 0 0)), .int (sni (prS (wS w) 5 0 0))])), (28, .inl (false, 6, sce (prS (wS w) 5 0 0))), (29, .inl (false, 6, she (prS (wS w) 5 0 0))), (30, .inl (false, 6, stu (prS (wS w) 5 0 0)))]) _
          refine E_callV (As := [.int (prF (wS w) 5)]) (l' := [.ref 26, .int (prF (wS w) 5), .null]) (st := []) dX5_tryOut_125 kX5_60 iX5_noteFlares vX5_noteFlares (by decide) rfl rfl MX5_noteFlares rfl rfl (Nat.le_of_ble_eq_true rfl) (FC.use (c_noteFlares (d + 3) (nI (wA w)) (prF (wS w) 5) (-6) (-6) (wF w) (wG w) (wH w)) rfl (L2 := [(1, .inr (0, [.ref 2, .ref 3, .ref 4, .int (skn s), .int (sdr s), .int (swa s), .int (sbu s), .int (sni s)])), (2, .inl (false, 6, sce s)), (3, .inl (false, 6, she s)), (4, .inl (false, 6, stu s)), (5, .inr (3, [.ref 6, .int (nI n)])), (6, .inl (false, 60, f)), (26, .inr (5, [.ref 27, .int (nI (wA w)), .int (-6), .int (-6), .int (wF w + bcI (prF (wS w) 5)), .int (ntG (nI (wA w)) (prF (wS w) 5) (wG w) (wH w)), .int (ntH (nI (wA w)) (prF (wS w) 5) (wG w) (wH w))])), (27, .inr (0, [.ref 28, .ref 29, .ref 30, .int (skn (prS (wS w) 5 0 0)), .int (sdr (prS (wS w) 5 0 0)), .int (swa (prS (wS w) 5 0 0)), .int (sbu (prS (wS w) 5 0 0)), .int (sni (prS (wS w) 5 0 0))])), (28, .inl (false, 6, sce (prS (wS w) 5 0 0))), (29, .inl (false, 6, she (prS (wS w) 5 0 0))), (30, .inl (false, 6, stu (prS (wS w) 5 0 0)))]) rfl) (Nat.le_of_ble_eq_true rfl) (fun _ _ hq9 => E_fgo ?_ hq9)
          show E _ _ 128 [.ref 26, .ref 5, .ref 1, .int l3, .int (nI p), .int 46, .int 5, .int (-51), .int (rsn (wS w) 5 0 0)] [] (hov hp [(1, .inr (0, [.ref 2, .ref 3, .ref 4, .int (skn s), .int (sdr s), .int (swa s), .int (sbu s), .int (sni s)])), (2, .inl (false, 6, sce s)), (3, .inl (false, 6, she s)), (4, .inl (false, 6, stu s)), (5, .inr (3, [.ref 6, .int (nI n)])), (6, .inl (false, 60, f)), (26, .inr (5, [.ref 27, .int (nI (wA w)), .int (-6), .int (-6), .int (wF w + bcI (prF (wS w) 5)), .int (ntG (nI (wA w)) (prF (wS w) 5) (wG w) (wH w)), .int (ntH (nI (wA w)) (prF (wS w) 5) (wG w) (wH w))])), (27, .inr (0, [.ref 28, .ref 29, .ref 30, .int (skn (prS (wS w) 5 0 0)), .int (sdr (prS (wS w) 5 0 0)), .int (swa (prS (wS w) 5 0 0)), .int (sbu (prS (wS w) 5 0 0)), .int (sni (prS (wS w) 5 0 0))])), (28, .inl (false, 6, sce (prS (wS w) 5 0 0))), (29, .inl (false, 6, she (prS (wS w) 5 0 0))), (30, .inl (false, 6, stu (prS (wS w) 5 0 0)))]) _
          refine E_aload_n dX5_tryOut_128 rfl ?_
          refine E_dup dX5_tryOut_129 rfl ?_
          refine E_get dX5_tryOut_130 fX5_48 (by decide) rfl rfl ?_
          refine E_iconst (v := 1) dX5_tryOut_133 (by decide) ?_
          refine E_iadd dX5_tryOut_134 ?_
          refine E_eqi (y := nI (wA w + 1)) (nI_1 _) ?_
          refine E_puti (fs2 := [.ref 27, .int (nI (wA w + 1)), .int (-6), .int (-6), .int (wF w + bcI (prF (wS w) 5)), .int (ntG (nI (wA w)) (prF (wS w) 5) (wG w) (wH w)), .int (ntH (nI (wA w)) (prF (wS w) 5) (wG w) (wH w))]) (L2 := [(1, .inr (0, [.ref 2, .ref 3, .ref 4, .int (skn s), .int (sdr s), .int (swa s), .int (sbu s), .int (sni s)])), (2, .inl (false, 6, sce s)), (3, .inl (false, 6, she s)), (4, .inl (false, 6, stu s)), (5, .inr (3, [.ref 6, .int (nI n)])), (6, .inl (false, 60, f)), (26, .inr (5, [.ref 27, .int (nI (wA w + 1)), .int (-6), .int (-6), .int (wF w + bcI (prF (wS w) 5)), .int (ntG (nI (wA w)) (prF (wS w) 5) (wG w) (wH w)), .int (ntH (nI (wA w)) (prF (wS w) 5) (wG w) (wH w))])), (27, .inr (0, [.ref 28, .ref 29, .ref 30, .int (skn (prS (wS w) 5 0 0)), .int (sdr (prS (wS w) 5 0 0)), .int (swa (prS (wS w) 5 0 0)), .int (sbu (prS (wS w) 5 0 0)), .int (sni (prS (wS w) 5 0 0))])), (28, .inl (false, 6, sce (prS (wS w) 5 0 0))), (29, .inl (false, 6, she (prS (wS w) 5 0 0))), (30, .inl (false, 6, stu (prS (wS w) 5 0 0)))]) dX5_tryOut_135 fX5_48 fpX5_1 (by decide) rfl (Nat.le_of_ble_eq_true rfl) rfl rfl ?_
          refine E_iinc (y := nI (p + 1)) (l2 := [.ref 26, .ref 5, .ref 1, .int l3, .int (nI (p + 1)), .int 46, .int 5, .int (-51), .int (rsn (wS w) 5 0 0)]) dX5_tryOut_138 rfl (nI_1 _) (by decide) rfl ?_
          refine E_goto (tgt := 21) dX5_tryOut_141 (by decide) ?_
          have e9 := ih _ (by omega) (p + 1) (wkn w 5 0 0) l3 (.int 46) (.int 5) (.int (-51)) (.int (rsn (wS w) 5 0 0)) (by omega) hfl (by rw [← he, wk_n0 h46 c93])
          simp only [wkn_S, wkn_A, wkn_F, wkn_G, wkn_H] at e9
          exact e9
        · refine E_aload_n dX5_tryOut_96 rfl ?_
          refine E_aload_n dX5_tryOut_97 rfl ?_
          refine E_get dX5_tryOut_98 fX5_48 (by decide) rfl rfl ?_
          refine E_puti (fs2 := [.ref 27, .int (nI (wA w)), .int (nI (wA w)), .int (-6), .int (wF w), .int (wG w), .int (wH w)]) (L2 := [(1, .inr (0, [.ref 2, .ref 3, .ref 4, .int (skn s), .int (sdr s), .int (swa s), .int (sbu s), .int (sni s)])), (2, .inl (false, 6, sce s)), (3, .inl (false, 6, she s)), (4, .inl (false, 6, stu s)), (5, .inr (3, [.ref 6, .int (nI n)])), (6, .inl (false, 60, f)), (26, .inr (5, [.ref 27, .int (nI (wA w)), .int (nI (wA w)), .int (-6), .int (wF w), .int (wG w), .int (wH w)])), (27, .inr (0, [.ref 28, .ref 29, .ref 30, .int (skn (wS w)), .int (sdr (wS w)), .int (swa (wS w)), .int (sbu (wS w)), .int (sni (wS w))])), (28, .inl (false, 6, sce (wS w))), (29, .inl (false, 6, she (wS w))), (30, .inl (false, 6, stu (wS w)))]) dX5_tryOut_101 fX5_51 fpX5_2 (by decide) rfl (Nat.le_of_ble_eq_true rfl) rfl rfl ?_
          refine E_aload_n dX5_tryOut_104 rfl ?_
          refine E_iload dX5_tryOut_105 rfl ?_
          refine E_puti (fs2 := [.ref 27, .int (nI (wA w)), .int (nI (wA w)), .int (rsn (wS w) 5 0 0), .int (wF w), .int (wG w), .int (wH w)]) (L2 := [(1, .inr (0, [.ref 2, .ref 3, .ref 4, .int (skn s), .int (sdr s), .int (swa s), .int (sbu s), .int (sni s)])), (2, .inl (false, 6, sce s)), (3, .inl (false, 6, she s)), (4, .inl (false, 6, stu s)), (5, .inr (3, [.ref 6, .int (nI n)])), (6, .inl (false, 60, f)), (26, .inr (5, [.ref 27, .int (nI (wA w)), .int (nI (wA w)), .int (rsn (wS w) 5 0 0), .int (wF w), .int (wG w), .int (wH w)])), (27, .inr (0, [.ref 28, .ref 29, .ref 30, .int (skn (wS w)), .int (sdr (wS w)), .int (swa (wS w)), .int (sbu (wS w)), .int (sni (wS w))])), (28, .inl (false, 6, sce (wS w))), (29, .inl (false, 6, she (wS w))), (30, .inl (false, 6, stu (wS w)))]) dX5_tryOut_107 fX5_54 fpX5_3 (by decide) rfl (Nat.le_of_ble_eq_true rfl) rfl rfl ?_
          refine E_iconst (v := 0) dX5_tryOut_110 (by decide) ?_
          exact E_iretf dX5_tryOut_111 rfl (b2i_nar _) (by rw [← he, wk_n1 h46 c93]; simp [b2i, c93]) (by rw [← he, wk_n1 h46 c93]; simp [stA, stW, c93])
      · have hl : letB (f p) = true := by
          simp only [okS, cond_false, Bool.or_eq_true, decide_eq_true_eq] at hok
          rcases hok with h | h
          · exact h
          · exact absurd h h46
        have hh := letB_h hl
        rw [flt_ok hok, hl] at hfl
        cases k with
        | zero => exact absurd hfl (nI_m6 (by omega))
        | succ k =>
          have hok2 : okS true (f (p + 1)) = true := by
            cases h : okS true (f (p + 1)) with
            | true => rfl
            | false => rw [flt_no h] at hfl; exact absurd hfl (nI_m6 (by omega))
          have hl2 : letB (f (p + 1)) = false := deed_let hok2
          rw [flt_ok hok2, hl2] at hfl
          refine E_iload dX5_tryOut_21 rfl ?_
          refine E_aload_n dX5_tryOut_23 rfl ?_
          refine E_get dX5_tryOut_24 fX5_28 (by decide) rfl rfl ?_
          refine E_icmp_ge (tgt := 144) dX5_tryOut_27 (by decide) (fun c => absurd c (nI_ge (by omega) (by omega))) (fun _ => ?_)
          refine E_iload dX5_tryOut_30 rfl ?_
          refine E_bipush (v := 60) dX5_tryOut_32 (by decide) ?_
          refine E_icmp_ge (tgt := 144) dX5_tryOut_34 (by decide) (fun c => absurd c (cI_nle (n := 60) rfl (by omega) (by decide))) (fun _ => ?_)
          refine E_aload_n dX5_tryOut_37 rfl ?_
          refine E_get dX5_tryOut_38 fX5_32 (by decide) rfl rfl ?_
          refine E_iload dX5_tryOut_41 rfl ?_
          refine E_ialdN (j := p) dX5_tryOut_43 (by decide) rfl (by omega) (by decide) ?_
          refine E_istore (l2 := [.ref 26, .ref 5, .ref 1, .int l3, .int (nI p), .int (f p), l6, l7, l8]) dX5_tryOut_44 (by decide) rfl ?_
          refine E_iload dX5_tryOut_46 rfl ?_
          refine E_callS (As := [.int (f p)]) (l' := [.int (f p)]) (st := []) dX5_tryOut_48 kX5_36 sX3_isHeapLetter MX3_isHeapLetter rfl rfl (Nat.le_of_ble_eq_true rfl) (FC.use (c_isHeapLetter (d + 3) _) rfl (L2 := [(1, .inr (0, [.ref 2, .ref 3, .ref 4, .int (skn s), .int (sdr s), .int (swa s), .int (sbu s), .int (sni s)])), (2, .inl (false, 6, sce s)), (3, .inl (false, 6, she s)), (4, .inl (false, 6, stu s)), (5, .inr (3, [.ref 6, .int (nI n)])), (6, .inl (false, 60, f)), (26, .inr (5, [.ref 27, .int (nI (wA w)), .int (-6), .int (-6), .int (wF w), .int (wG w), .int (wH w)])), (27, .inr (0, [.ref 28, .ref 29, .ref 30, .int (skn (wS w)), .int (sdr (wS w)), .int (swa (wS w)), .int (sbu (wS w)), .int (sni (wS w))])), (28, .inl (false, 6, sce (wS w))), (29, .inl (false, 6, she (wS w))), (30, .inl (false, 6, stu (wS w)))]) rfl) (Nat.le_of_ble_eq_true rfl) (fun _ _ hq9 => E_fgo ?_ hq9)
          show E _ _ 51 [.ref 26, .ref 5, .ref 1, .int l3, .int (nI p), .int (f p), l6, l7, l8] [.int (b2i (letB (f p)))] (hov hp [(1, .inr (0, [.ref 2, .ref 3, .ref 4, .int (skn s), .int (sdr s), .int (swa s), .int (sbu s), .int (sni s)])), (2, .inl (false, 6, sce s)), (3, .inl (false, 6, she s)), (4, .inl (false, 6, stu s)), (5, .inr (3, [.ref 6, .int (nI n)])), (6, .inl (false, 60, f)), (26, .inr (5, [.ref 27, .int (nI (wA w)), .int (-6), .int (-6), .int (wF w), .int (wG w), .int (wH w)])), (27, .inr (0, [.ref 28, .ref 29, .ref 30, .int (skn (wS w)), .int (sdr (wS w)), .int (swa (wS w)), .int (sbu (wS w)), .int (sni (wS w))])), (28, .inl (false, 6, sce (wS w))), (29, .inl (false, 6, she (wS w))), (30, .inl (false, 6, stu (wS w)))]) _
          refine E_if_eq (tgt := 63) dX5_tryOut_51 (by decide) (fun c => absurd (b2i_e0 c) (by rw [hl]; decide)) (fun _ => ?_)
          refine E_iload dX5_tryOut_54 rfl ?_
          refine E_bipush (v := 65) dX5_tryOut_56 (by decide) ?_
          refine E_isub dX5_tryOut_58 ?_
          refine E_eqi (y := nI (hN (f p))) hh.2.1 ?_
          refine E_istore_n (l2 := [.ref 26, .ref 5, .ref 1, .int (nI (hN (f p))), .int (nI p), .int (f p), l6, l7, l8]) dX5_tryOut_59 rfl (by decide) rfl ?_
          refine E_goto (tgt := 138) dX5_tryOut_60 (by decide) ?_
          refine E_iinc (y := nI (p + 1)) (l2 := [.ref 26, .ref 5, .ref 1, .int (nI (hN (f p))), .int (nI (p + 1)), .int (f p), l6, l7, l8]) dX5_tryOut_138 rfl (nI_1 _) (by decide) rfl ?_
          refine E_goto (tgt := 21) dX5_tryOut_141 (by decide) ?_
          have hd : celB (f (p + 1)) = true ∨ (f (p + 1) = 43 ∨ (f (p + 1) = 45 ∨ (f (p + 1) = 42 ∨ f (p + 1) = 94))) := by simpa [okS, deedB] using hok2
          rcases hd with hd | hd | hd | hd | hd
          · have hc97 := tI97.mp hd
            have n42 : ∀ q : Int32, (q.toInt < 97 ∨ 121 < q.toInt) → ¬ f (p + 1) = q := fun q hq h => by rw [h] at hc97; omega
            have hkd : kdN (f (p + 1)) = 0 := by simp only [kdN]; rw [if_neg (n42 43 (by decide)), if_neg (n42 45 (by decide)), if_neg (n42 42 (by decide)), if_neg (n42 94 (by decide))]
            refine E_iload dX5_tryOut_21 rfl ?_
            refine E_aload_n dX5_tryOut_23 rfl ?_
            refine E_get dX5_tryOut_24 fX5_28 (by decide) rfl rfl ?_
            refine E_icmp_ge (tgt := 144) dX5_tryOut_27 (by decide) (fun c => absurd c (nI_ge (by omega) (by omega))) (fun _ => ?_)
            refine E_iload dX5_tryOut_30 rfl ?_
            refine E_bipush (v := 60) dX5_tryOut_32 (by decide) ?_
            refine E_icmp_ge (tgt := 144) dX5_tryOut_34 (by decide) (fun c => absurd c (cI_nle (n := 60) rfl (by omega) (by decide))) (fun _ => ?_)
            refine E_aload_n dX5_tryOut_37 rfl ?_
            refine E_get dX5_tryOut_38 fX5_32 (by decide) rfl rfl ?_
            refine E_iload dX5_tryOut_41 rfl ?_
            refine E_ialdN (j := p + 1) dX5_tryOut_43 (by decide) rfl (by omega) (by decide) ?_
            refine E_istore (l2 := [.ref 26, .ref 5, .ref 1, .int (nI (hN (f p))), .int (nI (p + 1)), .int (f (p + 1)), l6, l7, l8]) dX5_tryOut_44 (by decide) rfl ?_
            refine E_iload dX5_tryOut_46 rfl ?_
            refine E_callS (As := [.int (f (p + 1))]) (l' := [.int (f (p + 1))]) (st := []) dX5_tryOut_48 kX5_36 sX3_isHeapLetter MX3_isHeapLetter rfl rfl (Nat.le_of_ble_eq_true rfl) (FC.use (c_isHeapLetter (d + 3) _) rfl (L2 := [(1, .inr (0, [.ref 2, .ref 3, .ref 4, .int (skn s), .int (sdr s), .int (swa s), .int (sbu s), .int (sni s)])), (2, .inl (false, 6, sce s)), (3, .inl (false, 6, she s)), (4, .inl (false, 6, stu s)), (5, .inr (3, [.ref 6, .int (nI n)])), (6, .inl (false, 60, f)), (26, .inr (5, [.ref 27, .int (nI (wA w)), .int (-6), .int (-6), .int (wF w), .int (wG w), .int (wH w)])), (27, .inr (0, [.ref 28, .ref 29, .ref 30, .int (skn (wS w)), .int (sdr (wS w)), .int (swa (wS w)), .int (sbu (wS w)), .int (sni (wS w))])), (28, .inl (false, 6, sce (wS w))), (29, .inl (false, 6, she (wS w))), (30, .inl (false, 6, stu (wS w)))]) rfl) (Nat.le_of_ble_eq_true rfl) (fun _ _ hq9 => E_fgo ?_ hq9)
            show E _ _ 51 [.ref 26, .ref 5, .ref 1, .int (nI (hN (f p))), .int (nI (p + 1)), .int (f (p + 1)), l6, l7, l8] [.int (b2i (letB (f (p + 1))))] (hov hp [(1, .inr (0, [.ref 2, .ref 3, .ref 4, .int (skn s), .int (sdr s), .int (swa s), .int (sbu s), .int (sni s)])), (2, .inl (false, 6, sce s)), (3, .inl (false, 6, she s)), (4, .inl (false, 6, stu s)), (5, .inr (3, [.ref 6, .int (nI n)])), (6, .inl (false, 60, f)), (26, .inr (5, [.ref 27, .int (nI (wA w)), .int (-6), .int (-6), .int (wF w), .int (wG w), .int (wH w)])), (27, .inr (0, [.ref 28, .ref 29, .ref 30, .int (skn (wS w)), .int (sdr (wS w)), .int (swa (wS w)), .int (sbu (wS w)), .int (sni (wS w))])), (28, .inl (false, 6, sce (wS w))), (29, .inl (false, 6, she (wS w))), (30, .inl (false, 6, stu (wS w)))]) _
            refine E_if_eq (tgt := 63) dX5_tryOut_51 (by decide) (fun _ => ?_) (fun c => absurd (by rw [hl2]; rfl) c)
            refine E_iload dX5_tryOut_63 rfl ?_
            refine E_callS (As := [.int (f (p + 1))]) (l' := [.int (f (p + 1))]) (st := []) dX5_tryOut_65 kX5_40 sX3_kindOf MX3_kindOf rfl rfl (Nat.le_of_ble_eq_true rfl) (FC.use (c_kind_cell (d + 4) (f (p + 1)) (n42 42 (by decide)) (n42 43 (by decide)) (n42 45 (by decide)) (n42 46 (by decide)) (n42 94 (by decide))) rfl (L2 := [(1, .inr (0, [.ref 2, .ref 3, .ref 4, .int (skn s), .int (sdr s), .int (swa s), .int (sbu s), .int (sni s)])), (2, .inl (false, 6, sce s)), (3, .inl (false, 6, she s)), (4, .inl (false, 6, stu s)), (5, .inr (3, [.ref 6, .int (nI n)])), (6, .inl (false, 60, f)), (26, .inr (5, [.ref 27, .int (nI (wA w)), .int (-6), .int (-6), .int (wF w), .int (wG w), .int (wH w)])), (27, .inr (0, [.ref 28, .ref 29, .ref 30, .int (skn (wS w)), .int (sdr (wS w)), .int (swa (wS w)), .int (sbu (wS w)), .int (sni (wS w))])), (28, .inl (false, 6, sce (wS w))), (29, .inl (false, 6, she (wS w))), (30, .inl (false, 6, stu (wS w)))]) rfl) (Nat.le_of_ble_eq_true rfl) (fun _ _ hq9 => E_fgo ?_ hq9)
            show E _ _ 68 [.ref 26, .ref 5, .ref 1, .int (nI (hN (f p))), .int (nI (p + 1)), .int (f (p + 1)), l6, l7, l8] [.int 0] (hov hp [(1, .inr (0, [.ref 2, .ref 3, .ref 4, .int (skn s), .int (sdr s), .int (swa s), .int (sbu s), .int (sni s)])), (2, .inl (false, 6, sce s)), (3, .inl (false, 6, she s)), (4, .inl (false, 6, stu s)), (5, .inr (3, [.ref 6, .int (nI n)])), (6, .inl (false, 60, f)), (26, .inr (5, [.ref 27, .int (nI (wA w)), .int (-6), .int (-6), .int (wF w), .int (wG w), .int (wH w)])), (27, .inr (0, [.ref 28, .ref 29, .ref 30, .int (skn (wS w)), .int (sdr (wS w)), .int (swa (wS w)), .int (sbu (wS w)), .int (sni (wS w))])), (28, .inl (false, 6, sce (wS w))), (29, .inl (false, 6, she (wS w))), (30, .inl (false, 6, stu (wS w)))]) _
            refine E_istore (l2 := [.ref 26, .ref 5, .ref 1, .int (nI (hN (f p))), .int (nI (p + 1)), .int (f (p + 1)), .int 0, l7, l8]) dX5_tryOut_68 (by decide) rfl ?_
            refine E_iload dX5_tryOut_70 rfl ?_
            refine E_bipush (v := 97) dX5_tryOut_72 (by decide) ?_
            refine E_isub dX5_tryOut_74 ?_
            refine E_istore (l2 := [.ref 26, .ref 5, .ref 1, .int (nI (hN (f p))), .int (nI (p + 1)), .int (f (p + 1)), .int 0, .int ((f (p + 1)) - 97), l8]) dX5_tryOut_75 (by decide) rfl ?_
            refine E_aload_n dX5_tryOut_77 rfl ?_
            refine E_get dX5_tryOut_78 fX5_12 (by decide) rfl rfl ?_
            refine E_iload dX5_tryOut_81 rfl ?_
            refine E_iload_n dX5_tryOut_83 rfl ?_
            refine E_iload dX5_tryOut_84 rfl ?_
            refine E_callV (As := [.int 0, .int (nI (hN (f p))), .int ((f (p + 1)) - 97)]) (l' := [.ref 27, .int 0, .int (nI (hN (f p))), .int ((f (p + 1)) - 97)]) (st := []) dX5_tryOut_86 kX5_44 iX0_reasonAgainst vX0_reasonAgainst (by decide) rfl rfl MX0_reasonAgainst rfl rfl (Nat.le_of_ble_eq_true rfl) (FC.use (c_reason_0 (d + 3) (wS w) (hN (f p)) (by first | omega | exact hh.1) (f (p + 1) - 97)) rfl (L2 := [(1, .inr (0, [.ref 2, .ref 3, .ref 4, .int (skn s), .int (sdr s), .int (swa s), .int (sbu s), .int (sni s)])), (2, .inl (false, 6, sce s)), (3, .inl (false, 6, she s)), (4, .inl (false, 6, stu s)), (5, .inr (3, [.ref 6, .int (nI n)])), (6, .inl (false, 60, f)), (26, .inr (5, [.ref 27, .int (nI (wA w)), .int (-6), .int (-6), .int (wF w), .int (wG w), .int (wH w)])), (27, .inr (0, [.ref 28, .ref 29, .ref 30, .int (skn (wS w)), .int (sdr (wS w)), .int (swa (wS w)), .int (sbu (wS w)), .int (sni (wS w))])), (28, .inl (false, 6, sce (wS w))), (29, .inl (false, 6, she (wS w))), (30, .inl (false, 6, stu (wS w)))]) rfl) (Nat.le_of_ble_eq_true rfl) (fun _ _ hq9 => E_fgo ?_ hq9)
            show E _ _ 89 [.ref 26, .ref 5, .ref 1, .int (nI (hN (f p))), .int (nI (p + 1)), .int (f (p + 1)), .int 0, .int ((f (p + 1)) - 97), l8] [.int (rsn (wS w) 0 (hN (f p)) (f (p + 1) - 97))] (hov hp [(1, .inr (0, [.ref 2, .ref 3, .ref 4, .int (skn s), .int (sdr s), .int (swa s), .int (sbu s), .int (sni s)])), (2, .inl (false, 6, sce s)), (3, .inl (false, 6, she s)), (4, .inl (false, 6, stu s)), (5, .inr (3, [.ref 6, .int (nI n)])), (6, .inl (false, 60, f)), (26, .inr (5, [.ref 27, .int (nI (wA w)), .int (-6), .int (-6), .int (wF w), .int (wG w), .int (wH w)])), (27, .inr (0, [.ref 28, .ref 29, .ref 30, .int (skn (wS w)), .int (sdr (wS w)), .int (swa (wS w)), .int (sbu (wS w)), .int (sni (wS w))])), (28, .inl (false, 6, sce (wS w))), (29, .inl (false, 6, she (wS w))), (30, .inl (false, 6, stu (wS w)))]) _
            refine E_istore (l2 := [.ref 26, .ref 5, .ref 1, .int (nI (hN (f p))), .int (nI (p + 1)), .int (f (p + 1)), .int 0, .int ((f (p + 1)) - 97), .int (rsn (wS w) 0 (hN (f p)) (f (p + 1) - 97))]) dX5_tryOut_89 (by decide) rfl ?_
            refine E_iload dX5_tryOut_91 rfl ?_
            refine E_if_eq (tgt := 112) dX5_tryOut_93 (by decide) (fun c93 => ?_) (fun c93 => ?_)
            · refine E_aload_n dX5_tryOut_112 rfl ?_
              refine E_aload_n dX5_tryOut_113 rfl ?_
              refine E_get dX5_tryOut_114 fX5_12 (by decide) rfl rfl ?_
              refine E_iload dX5_tryOut_117 rfl ?_
              refine E_iload_n dX5_tryOut_119 rfl ?_
              refine E_iload dX5_tryOut_120 rfl ?_
              refine E_callV (As := [.int 0, .int (nI (hN (f p))), .int ((f (p + 1)) - 97)]) (l' := [.ref 27, .int 0, .int (nI (hN (f p))), .int ((f (p + 1)) - 97)]) (st := [.ref 26]) dX5_tryOut_122 kX5_57 iX0_perform vX0_perform (by decide) rfl rfl MX0_perform rfl rfl (Nat.le_of_ble_eq_true rfl) (FC.use (c_perform_0 d (wS w) (hN (f p)) (by first | omega | exact hh.1) (f (p + 1) - 97)) rfl (L2 := [(1, .inr (0, [.ref 2, .ref 3, .ref 4, .int (skn s), .int (sdr s), .int (swa s), .int (sbu s), .int (sni s)])), (2, .inl (false, 6, sce s)), (3, .inl (false, 6, she s)), (4, .inl (false, 6, stu s)), (5, .inr (3, [.ref 6, .int (nI n)])), (6, .inl (false, 60, f)), (26, .inr (5, [.ref 27, .int (nI (wA w)), .int (-6), .int (-6), .int (wF w), .int (wG w), .int (wH w)])), (27, .inr (0, [.ref 28, .ref 29, .ref 30, .int (skn (prS (wS w) 0 (hN (f p)) (f (p + 1) - 97))), .int (sdr (prS (wS w) 0 (hN (f p)) (f (p + 1) - 97))), .int (swa (prS (wS w) 0 (hN (f p)) (f (p + 1) - 97))), .int (sbu (prS (wS w) 0 (hN (f p)) (f (p + 1) - 97))), .int (sni (prS (wS w) 0 (hN (f p)) (f (p + 1) - 97)))])), (28, .inl (false, 6, sce (prS (wS w) 0 (hN (f p)) (f (p + 1) - 97)))), (29, .inl (false, 6, she (prS (wS w) 0 (hN (f p)) (f (p + 1) - 97)))), (30, .inl (false, 6, stu (prS (wS w) 0 (hN (f p)) (f (p + 1) - 97))))]) rfl) (Nat.le_of_ble_eq_true rfl) (fun _ _ hq9 => E_fgo ?_ hq9)
              show E _ _ 125 [.ref 26, .ref 5, .ref 1, .int (nI (hN (f p))), .int (nI (p + 1)), .int (f (p + 1)), .int 0, .int ((f (p + 1)) - 97), .int (rsn (wS w) 0 (hN (f p)) (f (p + 1) - 97))] [.int (prF (wS w) 0), .ref 26] (hov hp [(1, .inr (0, [.ref 2, .ref 3, .ref 4, .int (skn s), .int (sdr s), .int (swa s), .int (sbu s), .int (sni s)])), (2, .inl (false, 6, sce s)), (3, .inl (false, 6, she s)), (4, .inl (false, 6, stu s)), (5, .inr (3, [.ref 6, .int (nI n)])), (6, .inl (false, 60, f)), (26, .inr (5, [.ref 27, .int (nI (wA w)), .int (-6), .int (-6), .int (wF w), .int (wG w), .int (wH w)])), (27, .inr (0, [.ref 28, .ref 29, .ref 30, .int (skn (prS (wS w) 0 (hN (f p)) (f (p + 1) - 97))), .int (sdr (prS (wS w) 0 (hN (f p)) (f (p + 1) - 97))), .int (swa (prS (wS w) 0 (hN (f p)) (f (p + 1) - 97))), .int (sbu (prS (wS w) 0 (hN (f p)) (f (p + 1) - 97))), .int (sni (prS (wS w) 0 (hN (f p)) (f (p + 1) - 97)))])), (28, .inl (false, 6, sce (prS (wS w) 0 (hN (f p)) (f (p + 1) - 97)))), (29, .inl (false, 6, she (prS (wS w) 0 (hN (f p)) (f (p + 1) - 97)))), (30, .inl (false, 6, stu (prS (wS w) 0 (hN (f p)) (f (p + 1) - 97))))]) _
              refine E_callV (As := [.int (prF (wS w) 0)]) (l' := [.ref 26, .int (prF (wS w) 0), .null]) (st := []) dX5_tryOut_125 kX5_60 iX5_noteFlares vX5_noteFlares (by decide) rfl rfl MX5_noteFlares rfl rfl (Nat.le_of_ble_eq_true rfl) (FC.use (c_noteFlares (d + 3) (nI (wA w)) (prF (wS w) 0) (-6) (-6) (wF w) (wG w) (wH w)) rfl (L2 := [(1, .inr (0, [.ref 2, .ref 3, .ref 4, .int (skn s), .int (sdr s), .int (swa s), .int (sbu s), .int (sni s)])), (2, .inl (false, 6, sce s)), (3, .inl (false, 6, she s)), (4, .inl (false, 6, stu s)), (5, .inr (3, [.ref 6, .int (nI n)])), (6, .inl (false, 60, f)), (26, .inr (5, [.ref 27, .int (nI (wA w)), .int (-6), .int (-6), .int (wF w + bcI (prF (wS w) 0)), .int (ntG (nI (wA w)) (prF (wS w) 0) (wG w) (wH w)), .int (ntH (nI (wA w)) (prF (wS w) 0) (wG w) (wH w))])), (27, .inr (0, [.ref 28, .ref 29, .ref 30, .int (skn (prS (wS w) 0 (hN (f p)) (f (p + 1) - 97))), .int (sdr (prS (wS w) 0 (hN (f p)) (f (p + 1) - 97))), .int (swa (prS (wS w) 0 (hN (f p)) (f (p + 1) - 97))), .int (sbu (prS (wS w) 0 (hN (f p)) (f (p + 1) - 97))), .int (sni (prS (wS w) 0 (hN (f p)) (f (p + 1) - 97)))])), (28, .inl (false, 6, sce (prS (wS w) 0 (hN (f p)) (f (p + 1) - 97)))), (29, .inl (false, 6, she (prS (wS w) 0 (hN (f p)) (f (p + 1) - 97)))), (30, .inl (false, 6, stu (prS (wS w) 0 (hN (f p)) (f (p + 1) - 97))))]) rfl) (Nat.le_of_ble_eq_true rfl) (fun _ _ hq9 => E_fgo ?_ hq9)
              show E _ _ 128 [.ref 26, .ref 5, .ref 1, .int (nI (hN (f p))), .int (nI (p + 1)), .int (f (p + 1)), .int 0, .int ((f (p + 1)) - 97), .int (rsn (wS w) 0 (hN (f p)) (f (p + 1) - 97))] [] (hov hp [(1, .inr (0, [.ref 2, .ref 3, .ref 4, .int (skn s), .int (sdr s), .int (swa s), .int (sbu s), .int (sni s)])), (2, .inl (false, 6, sce s)), (3, .inl (false, 6, she s)), (4, .inl (false, 6, stu s)), (5, .inr (3, [.ref 6, .int (nI n)])), (6, .inl (false, 60, f)), (26, .inr (5, [.ref 27, .int (nI (wA w)), .int (-6), .int (-6), .int (wF w + bcI (prF (wS w) 0)), .int (ntG (nI (wA w)) (prF (wS w) 0) (wG w) (wH w)), .int (ntH (nI (wA w)) (prF (wS w) 0) (wG w) (wH w))])), (27, .inr (0, [.ref 28, .ref 29, .ref 30, .int (skn (prS (wS w) 0 (hN (f p)) (f (p + 1) - 97))), .int (sdr (prS (wS w) 0 (hN (f p)) (f (p + 1) - 97))), .int (swa (prS (wS w) 0 (hN (f p)) (f (p + 1) - 97))), .int (sbu (prS (wS w) 0 (hN (f p)) (f (p + 1) - 97))), .int (sni (prS (wS w) 0 (hN (f p)) (f (p + 1) - 97)))])), (28, .inl (false, 6, sce (prS (wS w) 0 (hN (f p)) (f (p + 1) - 97)))), (29, .inl (false, 6, she (prS (wS w) 0 (hN (f p)) (f (p + 1) - 97)))), (30, .inl (false, 6, stu (prS (wS w) 0 (hN (f p)) (f (p + 1) - 97))))]) _
              refine E_aload_n dX5_tryOut_128 rfl ?_
              refine E_dup dX5_tryOut_129 rfl ?_
              refine E_get dX5_tryOut_130 fX5_48 (by decide) rfl rfl ?_
              refine E_iconst (v := 1) dX5_tryOut_133 (by decide) ?_
              refine E_iadd dX5_tryOut_134 ?_
              refine E_eqi (y := nI (wA w + 1)) (nI_1 _) ?_
              refine E_puti (fs2 := [.ref 27, .int (nI (wA w + 1)), .int (-6), .int (-6), .int (wF w + bcI (prF (wS w) 0)), .int (ntG (nI (wA w)) (prF (wS w) 0) (wG w) (wH w)), .int (ntH (nI (wA w)) (prF (wS w) 0) (wG w) (wH w))]) (L2 := [(1, .inr (0, [.ref 2, .ref 3, .ref 4, .int (skn s), .int (sdr s), .int (swa s), .int (sbu s), .int (sni s)])), (2, .inl (false, 6, sce s)), (3, .inl (false, 6, she s)), (4, .inl (false, 6, stu s)), (5, .inr (3, [.ref 6, .int (nI n)])), (6, .inl (false, 60, f)), (26, .inr (5, [.ref 27, .int (nI (wA w + 1)), .int (-6), .int (-6), .int (wF w + bcI (prF (wS w) 0)), .int (ntG (nI (wA w)) (prF (wS w) 0) (wG w) (wH w)), .int (ntH (nI (wA w)) (prF (wS w) 0) (wG w) (wH w))])), (27, .inr (0, [.ref 28, .ref 29, .ref 30, .int (skn (prS (wS w) 0 (hN (f p)) (f (p + 1) - 97))), .int (sdr (prS (wS w) 0 (hN (f p)) (f (p + 1) - 97))), .int (swa (prS (wS w) 0 (hN (f p)) (f (p + 1) - 97))), .int (sbu (prS (wS w) 0 (hN (f p)) (f (p + 1) - 97))), .int (sni (prS (wS w) 0 (hN (f p)) (f (p + 1) - 97)))])), (28, .inl (false, 6, sce (prS (wS w) 0 (hN (f p)) (f (p + 1) - 97)))), (29, .inl (false, 6, she (prS (wS w) 0 (hN (f p)) (f (p + 1) - 97)))), (30, .inl (false, 6, stu (prS (wS w) 0 (hN (f p)) (f (p + 1) - 97))))]) dX5_tryOut_135 fX5_48 fpX5_1 (by decide) rfl (Nat.le_of_ble_eq_true rfl) rfl rfl ?_
              refine E_iinc (y := nI (p + 1 + 1)) (l2 := [.ref 26, .ref 5, .ref 1, .int (nI (hN (f p))), .int (nI (p + 1 + 1)), .int (f (p + 1)), .int 0, .int ((f (p + 1)) - 97), .int (rsn (wS w) 0 (hN (f p)) (f (p + 1) - 97))]) dX5_tryOut_138 rfl (nI_1 _) (by decide) rfl ?_
              refine E_goto (tgt := 21) dX5_tryOut_141 (by decide) ?_
              have e9 := ih _ (by omega) (p + 2) (wkn w 0 (hN (f p)) (f (p + 1) - 97)) (nI (hN (f p))) (.int (f (p + 1))) (.int 0) (.int ((f (p + 1)) - 97)) (.int (rsn (wS w) 0 (hN (f p)) (f (p + 1) - 97))) (by omega) hfl (by rw [← he, wk_a0 h46 hkd rfl rfl c93])
              simp only [wkn_S, wkn_A, wkn_F, wkn_G, wkn_H] at e9
              exact e9
            · refine E_aload_n dX5_tryOut_96 rfl ?_
              refine E_aload_n dX5_tryOut_97 rfl ?_
              refine E_get dX5_tryOut_98 fX5_48 (by decide) rfl rfl ?_
              refine E_puti (fs2 := [.ref 27, .int (nI (wA w)), .int (nI (wA w)), .int (-6), .int (wF w), .int (wG w), .int (wH w)]) (L2 := [(1, .inr (0, [.ref 2, .ref 3, .ref 4, .int (skn s), .int (sdr s), .int (swa s), .int (sbu s), .int (sni s)])), (2, .inl (false, 6, sce s)), (3, .inl (false, 6, she s)), (4, .inl (false, 6, stu s)), (5, .inr (3, [.ref 6, .int (nI n)])), (6, .inl (false, 60, f)), (26, .inr (5, [.ref 27, .int (nI (wA w)), .int (nI (wA w)), .int (-6), .int (wF w), .int (wG w), .int (wH w)])), (27, .inr (0, [.ref 28, .ref 29, .ref 30, .int (skn (wS w)), .int (sdr (wS w)), .int (swa (wS w)), .int (sbu (wS w)), .int (sni (wS w))])), (28, .inl (false, 6, sce (wS w))), (29, .inl (false, 6, she (wS w))), (30, .inl (false, 6, stu (wS w)))]) dX5_tryOut_101 fX5_51 fpX5_2 (by decide) rfl (Nat.le_of_ble_eq_true rfl) rfl rfl ?_
              refine E_aload_n dX5_tryOut_104 rfl ?_
              refine E_iload dX5_tryOut_105 rfl ?_
              refine E_puti (fs2 := [.ref 27, .int (nI (wA w)), .int (nI (wA w)), .int (rsn (wS w) 0 (hN (f p)) (f (p + 1) - 97)), .int (wF w), .int (wG w), .int (wH w)]) (L2 := [(1, .inr (0, [.ref 2, .ref 3, .ref 4, .int (skn s), .int (sdr s), .int (swa s), .int (sbu s), .int (sni s)])), (2, .inl (false, 6, sce s)), (3, .inl (false, 6, she s)), (4, .inl (false, 6, stu s)), (5, .inr (3, [.ref 6, .int (nI n)])), (6, .inl (false, 60, f)), (26, .inr (5, [.ref 27, .int (nI (wA w)), .int (nI (wA w)), .int (rsn (wS w) 0 (hN (f p)) (f (p + 1) - 97)), .int (wF w), .int (wG w), .int (wH w)])), (27, .inr (0, [.ref 28, .ref 29, .ref 30, .int (skn (wS w)), .int (sdr (wS w)), .int (swa (wS w)), .int (sbu (wS w)), .int (sni (wS w))])), (28, .inl (false, 6, sce (wS w))), (29, .inl (false, 6, she (wS w))), (30, .inl (false, 6, stu (wS w)))]) dX5_tryOut_107 fX5_54 fpX5_3 (by decide) rfl (Nat.le_of_ble_eq_true rfl) rfl rfl ?_
              refine E_iconst (v := 0) dX5_tryOut_110 (by decide) ?_
              exact E_iretf dX5_tryOut_111 rfl (b2i_nar _) (by rw [← he, wk_a1 h46 hkd rfl rfl c93]; simp [b2i, c93]) (by rw [← he, wk_a1 h46 hkd rfl rfl c93]; simp [stA, stW, c93])
          · refine E_iload dX5_tryOut_21 rfl ?_
            refine E_aload_n dX5_tryOut_23 rfl ?_
            refine E_get dX5_tryOut_24 fX5_28 (by decide) rfl rfl ?_
            refine E_icmp_ge (tgt := 144) dX5_tryOut_27 (by decide) (fun c => absurd c (nI_ge (by omega) (by omega))) (fun _ => ?_)
            refine E_iload dX5_tryOut_30 rfl ?_
            refine E_bipush (v := 60) dX5_tryOut_32 (by decide) ?_
            refine E_icmp_ge (tgt := 144) dX5_tryOut_34 (by decide) (fun c => absurd c (cI_nle (n := 60) rfl (by omega) (by decide))) (fun _ => ?_)
            refine E_aload_n dX5_tryOut_37 rfl ?_
            refine E_get dX5_tryOut_38 fX5_32 (by decide) rfl rfl ?_
            refine E_iload dX5_tryOut_41 rfl ?_
            refine E_ialdN (j := p + 1) dX5_tryOut_43 (by decide) rfl (by omega) (by decide) ?_
            refine E_eqi (y := 43) hd ?_
            refine E_istore (l2 := [.ref 26, .ref 5, .ref 1, .int (nI (hN (f p))), .int (nI (p + 1)), .int 43, l6, l7, l8]) dX5_tryOut_44 (by decide) rfl ?_
            refine E_iload dX5_tryOut_46 rfl ?_
            refine E_callS (As := [.int 43]) (l' := [.int 43]) (st := []) dX5_tryOut_48 kX5_36 sX3_isHeapLetter MX3_isHeapLetter rfl rfl (Nat.le_of_ble_eq_true rfl) (FC.use (c_isHeapLetter (d + 3) _) rfl (L2 := [(1, .inr (0, [.ref 2, .ref 3, .ref 4, .int (skn s), .int (sdr s), .int (swa s), .int (sbu s), .int (sni s)])), (2, .inl (false, 6, sce s)), (3, .inl (false, 6, she s)), (4, .inl (false, 6, stu s)), (5, .inr (3, [.ref 6, .int (nI n)])), (6, .inl (false, 60, f)), (26, .inr (5, [.ref 27, .int (nI (wA w)), .int (-6), .int (-6), .int (wF w), .int (wG w), .int (wH w)])), (27, .inr (0, [.ref 28, .ref 29, .ref 30, .int (skn (wS w)), .int (sdr (wS w)), .int (swa (wS w)), .int (sbu (wS w)), .int (sni (wS w))])), (28, .inl (false, 6, sce (wS w))), (29, .inl (false, 6, she (wS w))), (30, .inl (false, 6, stu (wS w)))]) rfl) (Nat.le_of_ble_eq_true rfl) (fun _ _ hq9 => E_fgo ?_ hq9)
            show E _ _ 51 [.ref 26, .ref 5, .ref 1, .int (nI (hN (f p))), .int (nI (p + 1)), .int 43, l6, l7, l8] [.int (b2i (letB 43))] (hov hp [(1, .inr (0, [.ref 2, .ref 3, .ref 4, .int (skn s), .int (sdr s), .int (swa s), .int (sbu s), .int (sni s)])), (2, .inl (false, 6, sce s)), (3, .inl (false, 6, she s)), (4, .inl (false, 6, stu s)), (5, .inr (3, [.ref 6, .int (nI n)])), (6, .inl (false, 60, f)), (26, .inr (5, [.ref 27, .int (nI (wA w)), .int (-6), .int (-6), .int (wF w), .int (wG w), .int (wH w)])), (27, .inr (0, [.ref 28, .ref 29, .ref 30, .int (skn (wS w)), .int (sdr (wS w)), .int (swa (wS w)), .int (sbu (wS w)), .int (sni (wS w))])), (28, .inl (false, 6, sce (wS w))), (29, .inl (false, 6, she (wS w))), (30, .inl (false, 6, stu (wS w)))]) _
            refine E_if_eq (tgt := 63) dX5_tryOut_51 (by decide) (fun _ => ?_) (fun c => absurd (by rfl) c)
            refine E_iload dX5_tryOut_63 rfl ?_
            refine E_callS (As := [.int 43]) (l' := [.int 43]) (st := []) dX5_tryOut_65 kX5_40 sX3_kindOf MX3_kindOf rfl rfl (Nat.le_of_ble_eq_true rfl) (FC.use (c_kind_43 (d + 4)) rfl (L2 := [(1, .inr (0, [.ref 2, .ref 3, .ref 4, .int (skn s), .int (sdr s), .int (swa s), .int (sbu s), .int (sni s)])), (2, .inl (false, 6, sce s)), (3, .inl (false, 6, she s)), (4, .inl (false, 6, stu s)), (5, .inr (3, [.ref 6, .int (nI n)])), (6, .inl (false, 60, f)), (26, .inr (5, [.ref 27, .int (nI (wA w)), .int (-6), .int (-6), .int (wF w), .int (wG w), .int (wH w)])), (27, .inr (0, [.ref 28, .ref 29, .ref 30, .int (skn (wS w)), .int (sdr (wS w)), .int (swa (wS w)), .int (sbu (wS w)), .int (sni (wS w))])), (28, .inl (false, 6, sce (wS w))), (29, .inl (false, 6, she (wS w))), (30, .inl (false, 6, stu (wS w)))]) rfl) (Nat.le_of_ble_eq_true rfl) (fun _ _ hq9 => E_fgo ?_ hq9)
            show E _ _ 68 [.ref 26, .ref 5, .ref 1, .int (nI (hN (f p))), .int (nI (p + 1)), .int 43, l6, l7, l8] [.int 1] (hov hp [(1, .inr (0, [.ref 2, .ref 3, .ref 4, .int (skn s), .int (sdr s), .int (swa s), .int (sbu s), .int (sni s)])), (2, .inl (false, 6, sce s)), (3, .inl (false, 6, she s)), (4, .inl (false, 6, stu s)), (5, .inr (3, [.ref 6, .int (nI n)])), (6, .inl (false, 60, f)), (26, .inr (5, [.ref 27, .int (nI (wA w)), .int (-6), .int (-6), .int (wF w), .int (wG w), .int (wH w)])), (27, .inr (0, [.ref 28, .ref 29, .ref 30, .int (skn (wS w)), .int (sdr (wS w)), .int (swa (wS w)), .int (sbu (wS w)), .int (sni (wS w))])), (28, .inl (false, 6, sce (wS w))), (29, .inl (false, 6, she (wS w))), (30, .inl (false, 6, stu (wS w)))]) _
            refine E_istore (l2 := [.ref 26, .ref 5, .ref 1, .int (nI (hN (f p))), .int (nI (p + 1)), .int 43, .int 1, l7, l8]) dX5_tryOut_68 (by decide) rfl ?_
            refine E_iload dX5_tryOut_70 rfl ?_
            refine E_bipush (v := 97) dX5_tryOut_72 (by decide) ?_
            refine E_isub dX5_tryOut_74 ?_
            refine E_eqi (y := (-54)) (by decide) ?_
            refine E_eqi (y := (-54)) (by decide) ?_
            refine E_istore (l2 := [.ref 26, .ref 5, .ref 1, .int (nI (hN (f p))), .int (nI (p + 1)), .int 43, .int 1, .int (-54), l8]) dX5_tryOut_75 (by decide) rfl ?_
            refine E_aload_n dX5_tryOut_77 rfl ?_
            refine E_get dX5_tryOut_78 fX5_12 (by decide) rfl rfl ?_
            refine E_iload dX5_tryOut_81 rfl ?_
            refine E_iload_n dX5_tryOut_83 rfl ?_
            refine E_iload dX5_tryOut_84 rfl ?_
            refine E_callV (As := [.int 1, .int (nI (hN (f p))), .int (-54)]) (l' := [.ref 27, .int 1, .int (nI (hN (f p))), .int (-54)]) (st := []) dX5_tryOut_86 kX5_44 iX0_reasonAgainst vX0_reasonAgainst (by decide) rfl rfl MX0_reasonAgainst rfl rfl (Nat.le_of_ble_eq_true rfl) (FC.use (c_reason_1 (d + 3) (wS w) (hN (f p)) (by first | omega | exact hh.1) (-54)) rfl (L2 := [(1, .inr (0, [.ref 2, .ref 3, .ref 4, .int (skn s), .int (sdr s), .int (swa s), .int (sbu s), .int (sni s)])), (2, .inl (false, 6, sce s)), (3, .inl (false, 6, she s)), (4, .inl (false, 6, stu s)), (5, .inr (3, [.ref 6, .int (nI n)])), (6, .inl (false, 60, f)), (26, .inr (5, [.ref 27, .int (nI (wA w)), .int (-6), .int (-6), .int (wF w), .int (wG w), .int (wH w)])), (27, .inr (0, [.ref 28, .ref 29, .ref 30, .int (skn (wS w)), .int (sdr (wS w)), .int (swa (wS w)), .int (sbu (wS w)), .int (sni (wS w))])), (28, .inl (false, 6, sce (wS w))), (29, .inl (false, 6, she (wS w))), (30, .inl (false, 6, stu (wS w)))]) rfl) (Nat.le_of_ble_eq_true rfl) (fun _ _ hq9 => E_fgo ?_ hq9)
            show E _ _ 89 [.ref 26, .ref 5, .ref 1, .int (nI (hN (f p))), .int (nI (p + 1)), .int 43, .int 1, .int (-54), l8] [.int (rsn (wS w) 1 (hN (f p)) (-54))] (hov hp [(1, .inr (0, [.ref 2, .ref 3, .ref 4, .int (skn s), .int (sdr s), .int (swa s), .int (sbu s), .int (sni s)])), (2, .inl (false, 6, sce s)), (3, .inl (false, 6, she s)), (4, .inl (false, 6, stu s)), (5, .inr (3, [.ref 6, .int (nI n)])), (6, .inl (false, 60, f)), (26, .inr (5, [.ref 27, .int (nI (wA w)), .int (-6), .int (-6), .int (wF w), .int (wG w), .int (wH w)])), (27, .inr (0, [.ref 28, .ref 29, .ref 30, .int (skn (wS w)), .int (sdr (wS w)), .int (swa (wS w)), .int (sbu (wS w)), .int (sni (wS w))])), (28, .inl (false, 6, sce (wS w))), (29, .inl (false, 6, she (wS w))), (30, .inl (false, 6, stu (wS w)))]) _
            refine E_istore (l2 := [.ref 26, .ref 5, .ref 1, .int (nI (hN (f p))), .int (nI (p + 1)), .int 43, .int 1, .int (-54), .int (rsn (wS w) 1 (hN (f p)) (-54))]) dX5_tryOut_89 (by decide) rfl ?_
            refine E_iload dX5_tryOut_91 rfl ?_
            refine E_if_eq (tgt := 112) dX5_tryOut_93 (by decide) (fun c93 => ?_) (fun c93 => ?_)
            · refine E_aload_n dX5_tryOut_112 rfl ?_
              refine E_aload_n dX5_tryOut_113 rfl ?_
              refine E_get dX5_tryOut_114 fX5_12 (by decide) rfl rfl ?_
              refine E_iload dX5_tryOut_117 rfl ?_
              refine E_iload_n dX5_tryOut_119 rfl ?_
              refine E_iload dX5_tryOut_120 rfl ?_
              refine E_callV (As := [.int 1, .int (nI (hN (f p))), .int (-54)]) (l' := [.ref 27, .int 1, .int (nI (hN (f p))), .int (-54)]) (st := [.ref 26]) dX5_tryOut_122 kX5_57 iX0_perform vX0_perform (by decide) rfl rfl MX0_perform rfl rfl (Nat.le_of_ble_eq_true rfl) (FC.use (c_perform_1 d (wS w) (hN (f p)) (by first | omega | exact hh.1) (-54)) rfl (L2 := [(1, .inr (0, [.ref 2, .ref 3, .ref 4, .int (skn s), .int (sdr s), .int (swa s), .int (sbu s), .int (sni s)])), (2, .inl (false, 6, sce s)), (3, .inl (false, 6, she s)), (4, .inl (false, 6, stu s)), (5, .inr (3, [.ref 6, .int (nI n)])), (6, .inl (false, 60, f)), (26, .inr (5, [.ref 27, .int (nI (wA w)), .int (-6), .int (-6), .int (wF w), .int (wG w), .int (wH w)])), (27, .inr (0, [.ref 28, .ref 29, .ref 30, .int (skn (prS (wS w) 1 (hN (f p)) (-54))), .int (sdr (prS (wS w) 1 (hN (f p)) (-54))), .int (swa (prS (wS w) 1 (hN (f p)) (-54))), .int (sbu (prS (wS w) 1 (hN (f p)) (-54))), .int (sni (prS (wS w) 1 (hN (f p)) (-54)))])), (28, .inl (false, 6, sce (prS (wS w) 1 (hN (f p)) (-54)))), (29, .inl (false, 6, she (prS (wS w) 1 (hN (f p)) (-54)))), (30, .inl (false, 6, stu (prS (wS w) 1 (hN (f p)) (-54))))]) rfl) (Nat.le_of_ble_eq_true rfl) (fun _ _ hq9 => E_fgo ?_ hq9)
              show E _ _ 125 [.ref 26, .ref 5, .ref 1, .int (nI (hN (f p))), .int (nI (p + 1)), .int 43, .int 1, .int (-54), .int (rsn (wS w) 1 (hN (f p)) (-54))] [.int (prF (wS w) 1), .ref 26] (hov hp [(1, .inr (0, [.ref 2, .ref 3, .ref 4, .int (skn s), .int (sdr s), .int (swa s), .int (sbu s), .int (sni s)])), (2, .inl (false, 6, sce s)), (3, .inl (false, 6, she s)), (4, .inl (false, 6, stu s)), (5, .inr (3, [.ref 6, .int (nI n)])), (6, .inl (false, 60, f)), (26, .inr (5, [.ref 27, .int (nI (wA w)), .int (-6), .int (-6), .int (wF w), .int (wG w), .int (wH w)])), (27, .inr (0, [.ref 28, .ref 29, .ref 30, .int (skn (prS (wS w) 1 (hN (f p)) (-54))), .int (sdr (prS (wS w) 1 (hN (f p)) (-54))), .int (swa (prS (wS w) 1 (hN (f p)) (-54))), .int (sbu (prS (wS w) 1 (hN (f p)) (-54))), .int (sni (prS (wS w) 1 (hN (f p)) (-54)))])), (28, .inl (false, 6, sce (prS (wS w) 1 (hN (f p)) (-54)))), (29, .inl (false, 6, she (prS (wS w) 1 (hN (f p)) (-54)))), (30, .inl (false, 6, stu (prS (wS w) 1 (hN (f p)) (-54))))]) _
              refine E_callV (As := [.int (prF (wS w) 1)]) (l' := [.ref 26, .int (prF (wS w) 1), .null]) (st := []) dX5_tryOut_125 kX5_60 iX5_noteFlares vX5_noteFlares (by decide) rfl rfl MX5_noteFlares rfl rfl (Nat.le_of_ble_eq_true rfl) (FC.use (c_noteFlares (d + 3) (nI (wA w)) (prF (wS w) 1) (-6) (-6) (wF w) (wG w) (wH w)) rfl (L2 := [(1, .inr (0, [.ref 2, .ref 3, .ref 4, .int (skn s), .int (sdr s), .int (swa s), .int (sbu s), .int (sni s)])), (2, .inl (false, 6, sce s)), (3, .inl (false, 6, she s)), (4, .inl (false, 6, stu s)), (5, .inr (3, [.ref 6, .int (nI n)])), (6, .inl (false, 60, f)), (26, .inr (5, [.ref 27, .int (nI (wA w)), .int (-6), .int (-6), .int (wF w + bcI (prF (wS w) 1)), .int (ntG (nI (wA w)) (prF (wS w) 1) (wG w) (wH w)), .int (ntH (nI (wA w)) (prF (wS w) 1) (wG w) (wH w))])), (27, .inr (0, [.ref 28, .ref 29, .ref 30, .int (skn (prS (wS w) 1 (hN (f p)) (-54))), .int (sdr (prS (wS w) 1 (hN (f p)) (-54))), .int (swa (prS (wS w) 1 (hN (f p)) (-54))), .int (sbu (prS (wS w) 1 (hN (f p)) (-54))), .int (sni (prS (wS w) 1 (hN (f p)) (-54)))])), (28, .inl (false, 6, sce (prS (wS w) 1 (hN (f p)) (-54)))), (29, .inl (false, 6, she (prS (wS w) 1 (hN (f p)) (-54)))), (30, .inl (false, 6, stu (prS (wS w) 1 (hN (f p)) (-54))))]) rfl) (Nat.le_of_ble_eq_true rfl) (fun _ _ hq9 => E_fgo ?_ hq9)
              show E _ _ 128 [.ref 26, .ref 5, .ref 1, .int (nI (hN (f p))), .int (nI (p + 1)), .int 43, .int 1, .int (-54), .int (rsn (wS w) 1 (hN (f p)) (-54))] [] (hov hp [(1, .inr (0, [.ref 2, .ref 3, .ref 4, .int (skn s), .int (sdr s), .int (swa s), .int (sbu s), .int (sni s)])), (2, .inl (false, 6, sce s)), (3, .inl (false, 6, she s)), (4, .inl (false, 6, stu s)), (5, .inr (3, [.ref 6, .int (nI n)])), (6, .inl (false, 60, f)), (26, .inr (5, [.ref 27, .int (nI (wA w)), .int (-6), .int (-6), .int (wF w + bcI (prF (wS w) 1)), .int (ntG (nI (wA w)) (prF (wS w) 1) (wG w) (wH w)), .int (ntH (nI (wA w)) (prF (wS w) 1) (wG w) (wH w))])), (27, .inr (0, [.ref 28, .ref 29, .ref 30, .int (skn (prS (wS w) 1 (hN (f p)) (-54))), .int (sdr (prS (wS w) 1 (hN (f p)) (-54))), .int (swa (prS (wS w) 1 (hN (f p)) (-54))), .int (sbu (prS (wS w) 1 (hN (f p)) (-54))), .int (sni (prS (wS w) 1 (hN (f p)) (-54)))])), (28, .inl (false, 6, sce (prS (wS w) 1 (hN (f p)) (-54)))), (29, .inl (false, 6, she (prS (wS w) 1 (hN (f p)) (-54)))), (30, .inl (false, 6, stu (prS (wS w) 1 (hN (f p)) (-54))))]) _
              refine E_aload_n dX5_tryOut_128 rfl ?_
              refine E_dup dX5_tryOut_129 rfl ?_
              refine E_get dX5_tryOut_130 fX5_48 (by decide) rfl rfl ?_
              refine E_iconst (v := 1) dX5_tryOut_133 (by decide) ?_
              refine E_iadd dX5_tryOut_134 ?_
              refine E_eqi (y := nI (wA w + 1)) (nI_1 _) ?_
              refine E_puti (fs2 := [.ref 27, .int (nI (wA w + 1)), .int (-6), .int (-6), .int (wF w + bcI (prF (wS w) 1)), .int (ntG (nI (wA w)) (prF (wS w) 1) (wG w) (wH w)), .int (ntH (nI (wA w)) (prF (wS w) 1) (wG w) (wH w))]) (L2 := [(1, .inr (0, [.ref 2, .ref 3, .ref 4, .int (skn s), .int (sdr s), .int (swa s), .int (sbu s), .int (sni s)])), (2, .inl (false, 6, sce s)), (3, .inl (false, 6, she s)), (4, .inl (false, 6, stu s)), (5, .inr (3, [.ref 6, .int (nI n)])), (6, .inl (false, 60, f)), (26, .inr (5, [.ref 27, .int (nI (wA w + 1)), .int (-6), .int (-6), .int (wF w + bcI (prF (wS w) 1)), .int (ntG (nI (wA w)) (prF (wS w) 1) (wG w) (wH w)), .int (ntH (nI (wA w)) (prF (wS w) 1) (wG w) (wH w))])), (27, .inr (0, [.ref 28, .ref 29, .ref 30, .int (skn (prS (wS w) 1 (hN (f p)) (-54))), .int (sdr (prS (wS w) 1 (hN (f p)) (-54))), .int (swa (prS (wS w) 1 (hN (f p)) (-54))), .int (sbu (prS (wS w) 1 (hN (f p)) (-54))), .int (sni (prS (wS w) 1 (hN (f p)) (-54)))])), (28, .inl (false, 6, sce (prS (wS w) 1 (hN (f p)) (-54)))), (29, .inl (false, 6, she (prS (wS w) 1 (hN (f p)) (-54)))), (30, .inl (false, 6, stu (prS (wS w) 1 (hN (f p)) (-54))))]) dX5_tryOut_135 fX5_48 fpX5_1 (by decide) rfl (Nat.le_of_ble_eq_true rfl) rfl rfl ?_
              refine E_iinc (y := nI (p + 1 + 1)) (l2 := [.ref 26, .ref 5, .ref 1, .int (nI (hN (f p))), .int (nI (p + 1 + 1)), .int 43, .int 1, .int (-54), .int (rsn (wS w) 1 (hN (f p)) (-54))]) dX5_tryOut_138 rfl (nI_1 _) (by decide) rfl ?_
              refine E_goto (tgt := 21) dX5_tryOut_141 (by decide) ?_
              have e9 := ih _ (by omega) (p + 2) (wkn w 1 (hN (f p)) (-54)) (nI (hN (f p))) (.int 43) (.int 1) (.int (-54)) (.int (rsn (wS w) 1 (hN (f p)) (-54))) (by omega) hfl (by rw [← he, wk_a0 h46 (by rw [hd]; decide) rfl (by rw [hd]; decide) c93])
              simp only [wkn_S, wkn_A, wkn_F, wkn_G, wkn_H] at e9
              exact e9
            · refine E_aload_n dX5_tryOut_96 rfl ?_
              refine E_aload_n dX5_tryOut_97 rfl ?_
              refine E_get dX5_tryOut_98 fX5_48 (by decide) rfl rfl ?_
              refine E_puti (fs2 := [.ref 27, .int (nI (wA w)), .int (nI (wA w)), .int (-6), .int (wF w), .int (wG w), .int (wH w)]) (L2 := [(1, .inr (0, [.ref 2, .ref 3, .ref 4, .int (skn s), .int (sdr s), .int (swa s), .int (sbu s), .int (sni s)])), (2, .inl (false, 6, sce s)), (3, .inl (false, 6, she s)), (4, .inl (false, 6, stu s)), (5, .inr (3, [.ref 6, .int (nI n)])), (6, .inl (false, 60, f)), (26, .inr (5, [.ref 27, .int (nI (wA w)), .int (nI (wA w)), .int (-6), .int (wF w), .int (wG w), .int (wH w)])), (27, .inr (0, [.ref 28, .ref 29, .ref 30, .int (skn (wS w)), .int (sdr (wS w)), .int (swa (wS w)), .int (sbu (wS w)), .int (sni (wS w))])), (28, .inl (false, 6, sce (wS w))), (29, .inl (false, 6, she (wS w))), (30, .inl (false, 6, stu (wS w)))]) dX5_tryOut_101 fX5_51 fpX5_2 (by decide) rfl (Nat.le_of_ble_eq_true rfl) rfl rfl ?_
              refine E_aload_n dX5_tryOut_104 rfl ?_
              refine E_iload dX5_tryOut_105 rfl ?_
              refine E_puti (fs2 := [.ref 27, .int (nI (wA w)), .int (nI (wA w)), .int (rsn (wS w) 1 (hN (f p)) (-54)), .int (wF w), .int (wG w), .int (wH w)]) (L2 := [(1, .inr (0, [.ref 2, .ref 3, .ref 4, .int (skn s), .int (sdr s), .int (swa s), .int (sbu s), .int (sni s)])), (2, .inl (false, 6, sce s)), (3, .inl (false, 6, she s)), (4, .inl (false, 6, stu s)), (5, .inr (3, [.ref 6, .int (nI n)])), (6, .inl (false, 60, f)), (26, .inr (5, [.ref 27, .int (nI (wA w)), .int (nI (wA w)), .int (rsn (wS w) 1 (hN (f p)) (-54)), .int (wF w), .int (wG w), .int (wH w)])), (27, .inr (0, [.ref 28, .ref 29, .ref 30, .int (skn (wS w)), .int (sdr (wS w)), .int (swa (wS w)), .int (sbu (wS w)), .int (sni (wS w))])), (28, .inl (false, 6, sce (wS w))), (29, .inl (false, 6, she (wS w))), (30, .inl (false, 6, stu (wS w)))]) dX5_tryOut_107 fX5_54 fpX5_3 (by decide) rfl (Nat.le_of_ble_eq_true rfl) rfl rfl ?_
              refine E_iconst (v := 0) dX5_tryOut_110 (by decide) ?_
              exact E_iretf dX5_tryOut_111 rfl (b2i_nar _) (by rw [← he, wk_a1 h46 (by rw [hd]; decide) rfl (by rw [hd]; decide) c93]; simp [b2i, c93]) (by rw [← he, wk_a1 h46 (by rw [hd]; decide) rfl (by rw [hd]; decide) c93]; simp [stA, stW, c93])
          · refine E_iload dX5_tryOut_21 rfl ?_
            refine E_aload_n dX5_tryOut_23 rfl ?_
            refine E_get dX5_tryOut_24 fX5_28 (by decide) rfl rfl ?_
            refine E_icmp_ge (tgt := 144) dX5_tryOut_27 (by decide) (fun c => absurd c (nI_ge (by omega) (by omega))) (fun _ => ?_)
            refine E_iload dX5_tryOut_30 rfl ?_
            refine E_bipush (v := 60) dX5_tryOut_32 (by decide) ?_
            refine E_icmp_ge (tgt := 144) dX5_tryOut_34 (by decide) (fun c => absurd c (cI_nle (n := 60) rfl (by omega) (by decide))) (fun _ => ?_)
            refine E_aload_n dX5_tryOut_37 rfl ?_
            refine E_get dX5_tryOut_38 fX5_32 (by decide) rfl rfl ?_
            refine E_iload dX5_tryOut_41 rfl ?_
            refine E_ialdN (j := p + 1) dX5_tryOut_43 (by decide) rfl (by omega) (by decide) ?_
            refine E_eqi (y := 45) hd ?_
            refine E_istore (l2 := [.ref 26, .ref 5, .ref 1, .int (nI (hN (f p))), .int (nI (p + 1)), .int 45, l6, l7, l8]) dX5_tryOut_44 (by decide) rfl ?_
            refine E_iload dX5_tryOut_46 rfl ?_
            refine E_callS (As := [.int 45]) (l' := [.int 45]) (st := []) dX5_tryOut_48 kX5_36 sX3_isHeapLetter MX3_isHeapLetter rfl rfl (Nat.le_of_ble_eq_true rfl) (FC.use (c_isHeapLetter (d + 3) _) rfl (L2 := [(1, .inr (0, [.ref 2, .ref 3, .ref 4, .int (skn s), .int (sdr s), .int (swa s), .int (sbu s), .int (sni s)])), (2, .inl (false, 6, sce s)), (3, .inl (false, 6, she s)), (4, .inl (false, 6, stu s)), (5, .inr (3, [.ref 6, .int (nI n)])), (6, .inl (false, 60, f)), (26, .inr (5, [.ref 27, .int (nI (wA w)), .int (-6), .int (-6), .int (wF w), .int (wG w), .int (wH w)])), (27, .inr (0, [.ref 28, .ref 29, .ref 30, .int (skn (wS w)), .int (sdr (wS w)), .int (swa (wS w)), .int (sbu (wS w)), .int (sni (wS w))])), (28, .inl (false, 6, sce (wS w))), (29, .inl (false, 6, she (wS w))), (30, .inl (false, 6, stu (wS w)))]) rfl) (Nat.le_of_ble_eq_true rfl) (fun _ _ hq9 => E_fgo ?_ hq9)
            show E _ _ 51 [.ref 26, .ref 5, .ref 1, .int (nI (hN (f p))), .int (nI (p + 1)), .int 45, l6, l7, l8] [.int (b2i (letB 45))] (hov hp [(1, .inr (0, [.ref 2, .ref 3, .ref 4, .int (skn s), .int (sdr s), .int (swa s), .int (sbu s), .int (sni s)])), (2, .inl (false, 6, sce s)), (3, .inl (false, 6, she s)), (4, .inl (false, 6, stu s)), (5, .inr (3, [.ref 6, .int (nI n)])), (6, .inl (false, 60, f)), (26, .inr (5, [.ref 27, .int (nI (wA w)), .int (-6), .int (-6), .int (wF w), .int (wG w), .int (wH w)])), (27, .inr (0, [.ref 28, .ref 29, .ref 30, .int (skn (wS w)), .int (sdr (wS w)), .int (swa (wS w)), .int (sbu (wS w)), .int (sni (wS w))])), (28, .inl (false, 6, sce (wS w))), (29, .inl (false, 6, she (wS w))), (30, .inl (false, 6, stu (wS w)))]) _
            refine E_if_eq (tgt := 63) dX5_tryOut_51 (by decide) (fun _ => ?_) (fun c => absurd (by rfl) c)
            refine E_iload dX5_tryOut_63 rfl ?_
            refine E_callS (As := [.int 45]) (l' := [.int 45]) (st := []) dX5_tryOut_65 kX5_40 sX3_kindOf MX3_kindOf rfl rfl (Nat.le_of_ble_eq_true rfl) (FC.use (c_kind_45 (d + 4)) rfl (L2 := [(1, .inr (0, [.ref 2, .ref 3, .ref 4, .int (skn s), .int (sdr s), .int (swa s), .int (sbu s), .int (sni s)])), (2, .inl (false, 6, sce s)), (3, .inl (false, 6, she s)), (4, .inl (false, 6, stu s)), (5, .inr (3, [.ref 6, .int (nI n)])), (6, .inl (false, 60, f)), (26, .inr (5, [.ref 27, .int (nI (wA w)), .int (-6), .int (-6), .int (wF w), .int (wG w), .int (wH w)])), (27, .inr (0, [.ref 28, .ref 29, .ref 30, .int (skn (wS w)), .int (sdr (wS w)), .int (swa (wS w)), .int (sbu (wS w)), .int (sni (wS w))])), (28, .inl (false, 6, sce (wS w))), (29, .inl (false, 6, she (wS w))), (30, .inl (false, 6, stu (wS w)))]) rfl) (Nat.le_of_ble_eq_true rfl) (fun _ _ hq9 => E_fgo ?_ hq9)
            show E _ _ 68 [.ref 26, .ref 5, .ref 1, .int (nI (hN (f p))), .int (nI (p + 1)), .int 45, l6, l7, l8] [.int 2] (hov hp [(1, .inr (0, [.ref 2, .ref 3, .ref 4, .int (skn s), .int (sdr s), .int (swa s), .int (sbu s), .int (sni s)])), (2, .inl (false, 6, sce s)), (3, .inl (false, 6, she s)), (4, .inl (false, 6, stu s)), (5, .inr (3, [.ref 6, .int (nI n)])), (6, .inl (false, 60, f)), (26, .inr (5, [.ref 27, .int (nI (wA w)), .int (-6), .int (-6), .int (wF w), .int (wG w), .int (wH w)])), (27, .inr (0, [.ref 28, .ref 29, .ref 30, .int (skn (wS w)), .int (sdr (wS w)), .int (swa (wS w)), .int (sbu (wS w)), .int (sni (wS w))])), (28, .inl (false, 6, sce (wS w))), (29, .inl (false, 6, she (wS w))), (30, .inl (false, 6, stu (wS w)))]) _
            refine E_istore (l2 := [.ref 26, .ref 5, .ref 1, .int (nI (hN (f p))), .int (nI (p + 1)), .int 45, .int 2, l7, l8]) dX5_tryOut_68 (by decide) rfl ?_
            refine E_iload dX5_tryOut_70 rfl ?_
            refine E_bipush (v := 97) dX5_tryOut_72 (by decide) ?_
            refine E_isub dX5_tryOut_74 ?_
            refine E_eqi (y := (-52)) (by decide) ?_
            refine E_eqi (y := (-52)) (by decide) ?_
            refine E_istore (l2 := [.ref 26, .ref 5, .ref 1, .int (nI (hN (f p))), .int (nI (p + 1)), .int 45, .int 2, .int (-52), l8]) dX5_tryOut_75 (by decide) rfl ?_
            refine E_aload_n dX5_tryOut_77 rfl ?_
            refine E_get dX5_tryOut_78 fX5_12 (by decide) rfl rfl ?_
            refine E_iload dX5_tryOut_81 rfl ?_
            refine E_iload_n dX5_tryOut_83 rfl ?_
            refine E_iload dX5_tryOut_84 rfl ?_
            refine E_callV (As := [.int 2, .int (nI (hN (f p))), .int (-52)]) (l' := [.ref 27, .int 2, .int (nI (hN (f p))), .int (-52)]) (st := []) dX5_tryOut_86 kX5_44 iX0_reasonAgainst vX0_reasonAgainst (by decide) rfl rfl MX0_reasonAgainst rfl rfl (Nat.le_of_ble_eq_true rfl) (FC.use (c_reason_2 (d + 3) (wS w) (hN (f p)) (by first | omega | exact hh.1) (-52)) rfl (L2 := [(1, .inr (0, [.ref 2, .ref 3, .ref 4, .int (skn s), .int (sdr s), .int (swa s), .int (sbu s), .int (sni s)])), (2, .inl (false, 6, sce s)), (3, .inl (false, 6, she s)), (4, .inl (false, 6, stu s)), (5, .inr (3, [.ref 6, .int (nI n)])), (6, .inl (false, 60, f)), (26, .inr (5, [.ref 27, .int (nI (wA w)), .int (-6), .int (-6), .int (wF w), .int (wG w), .int (wH w)])), (27, .inr (0, [.ref 28, .ref 29, .ref 30, .int (skn (wS w)), .int (sdr (wS w)), .int (swa (wS w)), .int (sbu (wS w)), .int (sni (wS w))])), (28, .inl (false, 6, sce (wS w))), (29, .inl (false, 6, she (wS w))), (30, .inl (false, 6, stu (wS w)))]) rfl) (Nat.le_of_ble_eq_true rfl) (fun _ _ hq9 => E_fgo ?_ hq9)
            show E _ _ 89 [.ref 26, .ref 5, .ref 1, .int (nI (hN (f p))), .int (nI (p + 1)), .int 45, .int 2, .int (-52), l8] [.int (rsn (wS w) 2 (hN (f p)) (-52))] (hov hp [(1, .inr (0, [.ref 2, .ref 3, .ref 4, .int (skn s), .int (sdr s), .int (swa s), .int (sbu s), .int (sni s)])), (2, .inl (false, 6, sce s)), (3, .inl (false, 6, she s)), (4, .inl (false, 6, stu s)), (5, .inr (3, [.ref 6, .int (nI n)])), (6, .inl (false, 60, f)), (26, .inr (5, [.ref 27, .int (nI (wA w)), .int (-6), .int (-6), .int (wF w), .int (wG w), .int (wH w)])), (27, .inr (0, [.ref 28, .ref 29, .ref 30, .int (skn (wS w)), .int (sdr (wS w)), .int (swa (wS w)), .int (sbu (wS w)), .int (sni (wS w))])), (28, .inl (false, 6, sce (wS w))), (29, .inl (false, 6, she (wS w))), (30, .inl (false, 6, stu (wS w)))]) _
            refine E_istore (l2 := [.ref 26, .ref 5, .ref 1, .int (nI (hN (f p))), .int (nI (p + 1)), .int 45, .int 2, .int (-52), .int (rsn (wS w) 2 (hN (f p)) (-52))]) dX5_tryOut_89 (by decide) rfl ?_
            refine E_iload dX5_tryOut_91 rfl ?_
            refine E_if_eq (tgt := 112) dX5_tryOut_93 (by decide) (fun c93 => ?_) (fun c93 => ?_)
            · refine E_aload_n dX5_tryOut_112 rfl ?_
              refine E_aload_n dX5_tryOut_113 rfl ?_
              refine E_get dX5_tryOut_114 fX5_12 (by decide) rfl rfl ?_
              refine E_iload dX5_tryOut_117 rfl ?_
              refine E_iload_n dX5_tryOut_119 rfl ?_
              refine E_iload dX5_tryOut_120 rfl ?_
              refine E_callV (As := [.int 2, .int (nI (hN (f p))), .int (-52)]) (l' := [.ref 27, .int 2, .int (nI (hN (f p))), .int (-52)]) (st := [.ref 26]) dX5_tryOut_122 kX5_57 iX0_perform vX0_perform (by decide) rfl rfl MX0_perform rfl rfl (Nat.le_of_ble_eq_true rfl) (FC.use (c_perform_2 d (wS w) (hN (f p)) (by first | omega | exact hh.1) (-52)) rfl (L2 := [(1, .inr (0, [.ref 2, .ref 3, .ref 4, .int (skn s), .int (sdr s), .int (swa s), .int (sbu s), .int (sni s)])), (2, .inl (false, 6, sce s)), (3, .inl (false, 6, she s)), (4, .inl (false, 6, stu s)), (5, .inr (3, [.ref 6, .int (nI n)])), (6, .inl (false, 60, f)), (26, .inr (5, [.ref 27, .int (nI (wA w)), .int (-6), .int (-6), .int (wF w), .int (wG w), .int (wH w)])), (27, .inr (0, [.ref 28, .ref 29, .ref 30, .int (skn (prS (wS w) 2 (hN (f p)) (-52))), .int (sdr (prS (wS w) 2 (hN (f p)) (-52))), .int (swa (prS (wS w) 2 (hN (f p)) (-52))), .int (sbu (prS (wS w) 2 (hN (f p)) (-52))), .int (sni (prS (wS w) 2 (hN (f p)) (-52)))])), (28, .inl (false, 6, sce (prS (wS w) 2 (hN (f p)) (-52)))), (29, .inl (false, 6, she (prS (wS w) 2 (hN (f p)) (-52)))), (30, .inl (false, 6, stu (prS (wS w) 2 (hN (f p)) (-52))))]) rfl) (Nat.le_of_ble_eq_true rfl) (fun _ _ hq9 => E_fgo ?_ hq9)
              show E _ _ 125 [.ref 26, .ref 5, .ref 1, .int (nI (hN (f p))), .int (nI (p + 1)), .int 45, .int 2, .int (-52), .int (rsn (wS w) 2 (hN (f p)) (-52))] [.int (prF (wS w) 2), .ref 26] (hov hp [(1, .inr (0, [.ref 2, .ref 3, .ref 4, .int (skn s), .int (sdr s), .int (swa s), .int (sbu s), .int (sni s)])), (2, .inl (false, 6, sce s)), (3, .inl (false, 6, she s)), (4, .inl (false, 6, stu s)), (5, .inr (3, [.ref 6, .int (nI n)])), (6, .inl (false, 60, f)), (26, .inr (5, [.ref 27, .int (nI (wA w)), .int (-6), .int (-6), .int (wF w), .int (wG w), .int (wH w)])), (27, .inr (0, [.ref 28, .ref 29, .ref 30, .int (skn (prS (wS w) 2 (hN (f p)) (-52))), .int (sdr (prS (wS w) 2 (hN (f p)) (-52))), .int (swa (prS (wS w) 2 (hN (f p)) (-52))), .int (sbu (prS (wS w) 2 (hN (f p)) (-52))), .int (sni (prS (wS w) 2 (hN (f p)) (-52)))])), (28, .inl (false, 6, sce (prS (wS w) 2 (hN (f p)) (-52)))), (29, .inl (false, 6, she (prS (wS w) 2 (hN (f p)) (-52)))), (30, .inl (false, 6, stu (prS (wS w) 2 (hN (f p)) (-52))))]) _
              refine E_callV (As := [.int (prF (wS w) 2)]) (l' := [.ref 26, .int (prF (wS w) 2), .null]) (st := []) dX5_tryOut_125 kX5_60 iX5_noteFlares vX5_noteFlares (by decide) rfl rfl MX5_noteFlares rfl rfl (Nat.le_of_ble_eq_true rfl) (FC.use (c_noteFlares (d + 3) (nI (wA w)) (prF (wS w) 2) (-6) (-6) (wF w) (wG w) (wH w)) rfl (L2 := [(1, .inr (0, [.ref 2, .ref 3, .ref 4, .int (skn s), .int (sdr s), .int (swa s), .int (sbu s), .int (sni s)])), (2, .inl (false, 6, sce s)), (3, .inl (false, 6, she s)), (4, .inl (false, 6, stu s)), (5, .inr (3, [.ref 6, .int (nI n)])), (6, .inl (false, 60, f)), (26, .inr (5, [.ref 27, .int (nI (wA w)), .int (-6), .int (-6), .int (wF w + bcI (prF (wS w) 2)), .int (ntG (nI (wA w)) (prF (wS w) 2) (wG w) (wH w)), .int (ntH (nI (wA w)) (prF (wS w) 2) (wG w) (wH w))])), (27, .inr (0, [.ref 28, .ref 29, .ref 30, .int (skn (prS (wS w) 2 (hN (f p)) (-52))), .int (sdr (prS (wS w) 2 (hN (f p)) (-52))), .int (swa (prS (wS w) 2 (hN (f p)) (-52))), .int (sbu (prS (wS w) 2 (hN (f p)) (-52))), .int (sni (prS (wS w) 2 (hN (f p)) (-52)))])), (28, .inl (false, 6, sce (prS (wS w) 2 (hN (f p)) (-52)))), (29, .inl (false, 6, she (prS (wS w) 2 (hN (f p)) (-52)))), (30, .inl (false, 6, stu (prS (wS w) 2 (hN (f p)) (-52))))]) rfl) (Nat.le_of_ble_eq_true rfl) (fun _ _ hq9 => E_fgo ?_ hq9)
              show E _ _ 128 [.ref 26, .ref 5, .ref 1, .int (nI (hN (f p))), .int (nI (p + 1)), .int 45, .int 2, .int (-52), .int (rsn (wS w) 2 (hN (f p)) (-52))] [] (hov hp [(1, .inr (0, [.ref 2, .ref 3, .ref 4, .int (skn s), .int (sdr s), .int (swa s), .int (sbu s), .int (sni s)])), (2, .inl (false, 6, sce s)), (3, .inl (false, 6, she s)), (4, .inl (false, 6, stu s)), (5, .inr (3, [.ref 6, .int (nI n)])), (6, .inl (false, 60, f)), (26, .inr (5, [.ref 27, .int (nI (wA w)), .int (-6), .int (-6), .int (wF w + bcI (prF (wS w) 2)), .int (ntG (nI (wA w)) (prF (wS w) 2) (wG w) (wH w)), .int (ntH (nI (wA w)) (prF (wS w) 2) (wG w) (wH w))])), (27, .inr (0, [.ref 28, .ref 29, .ref 30, .int (skn (prS (wS w) 2 (hN (f p)) (-52))), .int (sdr (prS (wS w) 2 (hN (f p)) (-52))), .int (swa (prS (wS w) 2 (hN (f p)) (-52))), .int (sbu (prS (wS w) 2 (hN (f p)) (-52))), .int (sni (prS (wS w) 2 (hN (f p)) (-52)))])), (28, .inl (false, 6, sce (prS (wS w) 2 (hN (f p)) (-52)))), (29, .inl (false, 6, she (prS (wS w) 2 (hN (f p)) (-52)))), (30, .inl (false, 6, stu (prS (wS w) 2 (hN (f p)) (-52))))]) _
              refine E_aload_n dX5_tryOut_128 rfl ?_
              refine E_dup dX5_tryOut_129 rfl ?_
              refine E_get dX5_tryOut_130 fX5_48 (by decide) rfl rfl ?_
              refine E_iconst (v := 1) dX5_tryOut_133 (by decide) ?_
              refine E_iadd dX5_tryOut_134 ?_
              refine E_eqi (y := nI (wA w + 1)) (nI_1 _) ?_
              refine E_puti (fs2 := [.ref 27, .int (nI (wA w + 1)), .int (-6), .int (-6), .int (wF w + bcI (prF (wS w) 2)), .int (ntG (nI (wA w)) (prF (wS w) 2) (wG w) (wH w)), .int (ntH (nI (wA w)) (prF (wS w) 2) (wG w) (wH w))]) (L2 := [(1, .inr (0, [.ref 2, .ref 3, .ref 4, .int (skn s), .int (sdr s), .int (swa s), .int (sbu s), .int (sni s)])), (2, .inl (false, 6, sce s)), (3, .inl (false, 6, she s)), (4, .inl (false, 6, stu s)), (5, .inr (3, [.ref 6, .int (nI n)])), (6, .inl (false, 60, f)), (26, .inr (5, [.ref 27, .int (nI (wA w + 1)), .int (-6), .int (-6), .int (wF w + bcI (prF (wS w) 2)), .int (ntG (nI (wA w)) (prF (wS w) 2) (wG w) (wH w)), .int (ntH (nI (wA w)) (prF (wS w) 2) (wG w) (wH w))])), (27, .inr (0, [.ref 28, .ref 29, .ref 30, .int (skn (prS (wS w) 2 (hN (f p)) (-52))), .int (sdr (prS (wS w) 2 (hN (f p)) (-52))), .int (swa (prS (wS w) 2 (hN (f p)) (-52))), .int (sbu (prS (wS w) 2 (hN (f p)) (-52))), .int (sni (prS (wS w) 2 (hN (f p)) (-52)))])), (28, .inl (false, 6, sce (prS (wS w) 2 (hN (f p)) (-52)))), (29, .inl (false, 6, she (prS (wS w) 2 (hN (f p)) (-52)))), (30, .inl (false, 6, stu (prS (wS w) 2 (hN (f p)) (-52))))]) dX5_tryOut_135 fX5_48 fpX5_1 (by decide) rfl (Nat.le_of_ble_eq_true rfl) rfl rfl ?_
              refine E_iinc (y := nI (p + 1 + 1)) (l2 := [.ref 26, .ref 5, .ref 1, .int (nI (hN (f p))), .int (nI (p + 1 + 1)), .int 45, .int 2, .int (-52), .int (rsn (wS w) 2 (hN (f p)) (-52))]) dX5_tryOut_138 rfl (nI_1 _) (by decide) rfl ?_
              refine E_goto (tgt := 21) dX5_tryOut_141 (by decide) ?_
              have e9 := ih _ (by omega) (p + 2) (wkn w 2 (hN (f p)) (-52)) (nI (hN (f p))) (.int 45) (.int 2) (.int (-52)) (.int (rsn (wS w) 2 (hN (f p)) (-52))) (by omega) hfl (by rw [← he, wk_a0 h46 (by rw [hd]; decide) rfl (by rw [hd]; decide) c93])
              simp only [wkn_S, wkn_A, wkn_F, wkn_G, wkn_H] at e9
              exact e9
            · refine E_aload_n dX5_tryOut_96 rfl ?_
              refine E_aload_n dX5_tryOut_97 rfl ?_
              refine E_get dX5_tryOut_98 fX5_48 (by decide) rfl rfl ?_
              refine E_puti (fs2 := [.ref 27, .int (nI (wA w)), .int (nI (wA w)), .int (-6), .int (wF w), .int (wG w), .int (wH w)]) (L2 := [(1, .inr (0, [.ref 2, .ref 3, .ref 4, .int (skn s), .int (sdr s), .int (swa s), .int (sbu s), .int (sni s)])), (2, .inl (false, 6, sce s)), (3, .inl (false, 6, she s)), (4, .inl (false, 6, stu s)), (5, .inr (3, [.ref 6, .int (nI n)])), (6, .inl (false, 60, f)), (26, .inr (5, [.ref 27, .int (nI (wA w)), .int (nI (wA w)), .int (-6), .int (wF w), .int (wG w), .int (wH w)])), (27, .inr (0, [.ref 28, .ref 29, .ref 30, .int (skn (wS w)), .int (sdr (wS w)), .int (swa (wS w)), .int (sbu (wS w)), .int (sni (wS w))])), (28, .inl (false, 6, sce (wS w))), (29, .inl (false, 6, she (wS w))), (30, .inl (false, 6, stu (wS w)))]) dX5_tryOut_101 fX5_51 fpX5_2 (by decide) rfl (Nat.le_of_ble_eq_true rfl) rfl rfl ?_
              refine E_aload_n dX5_tryOut_104 rfl ?_
              refine E_iload dX5_tryOut_105 rfl ?_
              refine E_puti (fs2 := [.ref 27, .int (nI (wA w)), .int (nI (wA w)), .int (rsn (wS w) 2 (hN (f p)) (-52)), .int (wF w), .int (wG w), .int (wH w)]) (L2 := [(1, .inr (0, [.ref 2, .ref 3, .ref 4, .int (skn s), .int (sdr s), .int (swa s), .int (sbu s), .int (sni s)])), (2, .inl (false, 6, sce s)), (3, .inl (false, 6, she s)), (4, .inl (false, 6, stu s)), (5, .inr (3, [.ref 6, .int (nI n)])), (6, .inl (false, 60, f)), (26, .inr (5, [.ref 27, .int (nI (wA w)), .int (nI (wA w)), .int (rsn (wS w) 2 (hN (f p)) (-52)), .int (wF w), .int (wG w), .int (wH w)])), (27, .inr (0, [.ref 28, .ref 29, .ref 30, .int (skn (wS w)), .int (sdr (wS w)), .int (swa (wS w)), .int (sbu (wS w)), .int (sni (wS w))])), (28, .inl (false, 6, sce (wS w))), (29, .inl (false, 6, she (wS w))), (30, .inl (false, 6, stu (wS w)))]) dX5_tryOut_107 fX5_54 fpX5_3 (by decide) rfl (Nat.le_of_ble_eq_true rfl) rfl rfl ?_
              refine E_iconst (v := 0) dX5_tryOut_110 (by decide) ?_
              exact E_iretf dX5_tryOut_111 rfl (b2i_nar _) (by rw [← he, wk_a1 h46 (by rw [hd]; decide) rfl (by rw [hd]; decide) c93]; simp [b2i, c93]) (by rw [← he, wk_a1 h46 (by rw [hd]; decide) rfl (by rw [hd]; decide) c93]; simp [stA, stW, c93])
          · refine E_iload dX5_tryOut_21 rfl ?_
            refine E_aload_n dX5_tryOut_23 rfl ?_
            refine E_get dX5_tryOut_24 fX5_28 (by decide) rfl rfl ?_
            refine E_icmp_ge (tgt := 144) dX5_tryOut_27 (by decide) (fun c => absurd c (nI_ge (by omega) (by omega))) (fun _ => ?_)
            refine E_iload dX5_tryOut_30 rfl ?_
            refine E_bipush (v := 60) dX5_tryOut_32 (by decide) ?_
            refine E_icmp_ge (tgt := 144) dX5_tryOut_34 (by decide) (fun c => absurd c (cI_nle (n := 60) rfl (by omega) (by decide))) (fun _ => ?_)
            refine E_aload_n dX5_tryOut_37 rfl ?_
            refine E_get dX5_tryOut_38 fX5_32 (by decide) rfl rfl ?_
            refine E_iload dX5_tryOut_41 rfl ?_
            refine E_ialdN (j := p + 1) dX5_tryOut_43 (by decide) rfl (by omega) (by decide) ?_
            refine E_eqi (y := 42) hd ?_
            refine E_istore (l2 := [.ref 26, .ref 5, .ref 1, .int (nI (hN (f p))), .int (nI (p + 1)), .int 42, l6, l7, l8]) dX5_tryOut_44 (by decide) rfl ?_
            refine E_iload dX5_tryOut_46 rfl ?_
            refine E_callS (As := [.int 42]) (l' := [.int 42]) (st := []) dX5_tryOut_48 kX5_36 sX3_isHeapLetter MX3_isHeapLetter rfl rfl (Nat.le_of_ble_eq_true rfl) (FC.use (c_isHeapLetter (d + 3) _) rfl (L2 := [(1, .inr (0, [.ref 2, .ref 3, .ref 4, .int (skn s), .int (sdr s), .int (swa s), .int (sbu s), .int (sni s)])), (2, .inl (false, 6, sce s)), (3, .inl (false, 6, she s)), (4, .inl (false, 6, stu s)), (5, .inr (3, [.ref 6, .int (nI n)])), (6, .inl (false, 60, f)), (26, .inr (5, [.ref 27, .int (nI (wA w)), .int (-6), .int (-6), .int (wF w), .int (wG w), .int (wH w)])), (27, .inr (0, [.ref 28, .ref 29, .ref 30, .int (skn (wS w)), .int (sdr (wS w)), .int (swa (wS w)), .int (sbu (wS w)), .int (sni (wS w))])), (28, .inl (false, 6, sce (wS w))), (29, .inl (false, 6, she (wS w))), (30, .inl (false, 6, stu (wS w)))]) rfl) (Nat.le_of_ble_eq_true rfl) (fun _ _ hq9 => E_fgo ?_ hq9)
            show E _ _ 51 [.ref 26, .ref 5, .ref 1, .int (nI (hN (f p))), .int (nI (p + 1)), .int 42, l6, l7, l8] [.int (b2i (letB 42))] (hov hp [(1, .inr (0, [.ref 2, .ref 3, .ref 4, .int (skn s), .int (sdr s), .int (swa s), .int (sbu s), .int (sni s)])), (2, .inl (false, 6, sce s)), (3, .inl (false, 6, she s)), (4, .inl (false, 6, stu s)), (5, .inr (3, [.ref 6, .int (nI n)])), (6, .inl (false, 60, f)), (26, .inr (5, [.ref 27, .int (nI (wA w)), .int (-6), .int (-6), .int (wF w), .int (wG w), .int (wH w)])), (27, .inr (0, [.ref 28, .ref 29, .ref 30, .int (skn (wS w)), .int (sdr (wS w)), .int (swa (wS w)), .int (sbu (wS w)), .int (sni (wS w))])), (28, .inl (false, 6, sce (wS w))), (29, .inl (false, 6, she (wS w))), (30, .inl (false, 6, stu (wS w)))]) _
            refine E_if_eq (tgt := 63) dX5_tryOut_51 (by decide) (fun _ => ?_) (fun c => absurd (by rfl) c)
            refine E_iload dX5_tryOut_63 rfl ?_
            refine E_callS (As := [.int 42]) (l' := [.int 42]) (st := []) dX5_tryOut_65 kX5_40 sX3_kindOf MX3_kindOf rfl rfl (Nat.le_of_ble_eq_true rfl) (FC.use (c_kind_42 (d + 4)) rfl (L2 := [(1, .inr (0, [.ref 2, .ref 3, .ref 4, .int (skn s), .int (sdr s), .int (swa s), .int (sbu s), .int (sni s)])), (2, .inl (false, 6, sce s)), (3, .inl (false, 6, she s)), (4, .inl (false, 6, stu s)), (5, .inr (3, [.ref 6, .int (nI n)])), (6, .inl (false, 60, f)), (26, .inr (5, [.ref 27, .int (nI (wA w)), .int (-6), .int (-6), .int (wF w), .int (wG w), .int (wH w)])), (27, .inr (0, [.ref 28, .ref 29, .ref 30, .int (skn (wS w)), .int (sdr (wS w)), .int (swa (wS w)), .int (sbu (wS w)), .int (sni (wS w))])), (28, .inl (false, 6, sce (wS w))), (29, .inl (false, 6, she (wS w))), (30, .inl (false, 6, stu (wS w)))]) rfl) (Nat.le_of_ble_eq_true rfl) (fun _ _ hq9 => E_fgo ?_ hq9)
            show E _ _ 68 [.ref 26, .ref 5, .ref 1, .int (nI (hN (f p))), .int (nI (p + 1)), .int 42, l6, l7, l8] [.int 3] (hov hp [(1, .inr (0, [.ref 2, .ref 3, .ref 4, .int (skn s), .int (sdr s), .int (swa s), .int (sbu s), .int (sni s)])), (2, .inl (false, 6, sce s)), (3, .inl (false, 6, she s)), (4, .inl (false, 6, stu s)), (5, .inr (3, [.ref 6, .int (nI n)])), (6, .inl (false, 60, f)), (26, .inr (5, [.ref 27, .int (nI (wA w)), .int (-6), .int (-6), .int (wF w), .int (wG w), .int (wH w)])), (27, .inr (0, [.ref 28, .ref 29, .ref 30, .int (skn (wS w)), .int (sdr (wS w)), .int (swa (wS w)), .int (sbu (wS w)), .int (sni (wS w))])), (28, .inl (false, 6, sce (wS w))), (29, .inl (false, 6, she (wS w))), (30, .inl (false, 6, stu (wS w)))]) _
            refine E_istore (l2 := [.ref 26, .ref 5, .ref 1, .int (nI (hN (f p))), .int (nI (p + 1)), .int 42, .int 3, l7, l8]) dX5_tryOut_68 (by decide) rfl ?_
            refine E_iload dX5_tryOut_70 rfl ?_
            refine E_bipush (v := 97) dX5_tryOut_72 (by decide) ?_
            refine E_isub dX5_tryOut_74 ?_
            refine E_eqi (y := (-55)) (by decide) ?_
            refine E_eqi (y := (-55)) (by decide) ?_
            refine E_istore (l2 := [.ref 26, .ref 5, .ref 1, .int (nI (hN (f p))), .int (nI (p + 1)), .int 42, .int 3, .int (-55), l8]) dX5_tryOut_75 (by decide) rfl ?_
            refine E_aload_n dX5_tryOut_77 rfl ?_
            refine E_get dX5_tryOut_78 fX5_12 (by decide) rfl rfl ?_
            refine E_iload dX5_tryOut_81 rfl ?_
            refine E_iload_n dX5_tryOut_83 rfl ?_
            refine E_iload dX5_tryOut_84 rfl ?_
            refine E_callV (As := [.int 3, .int (nI (hN (f p))), .int (-55)]) (l' := [.ref 27, .int 3, .int (nI (hN (f p))), .int (-55)]) (st := []) dX5_tryOut_86 kX5_44 iX0_reasonAgainst vX0_reasonAgainst (by decide) rfl rfl MX0_reasonAgainst rfl rfl (Nat.le_of_ble_eq_true rfl) (FC.use (c_reason_3 (d + 3) (wS w) (hN (f p)) (by first | omega | exact hh.1) (-55)) rfl (L2 := [(1, .inr (0, [.ref 2, .ref 3, .ref 4, .int (skn s), .int (sdr s), .int (swa s), .int (sbu s), .int (sni s)])), (2, .inl (false, 6, sce s)), (3, .inl (false, 6, she s)), (4, .inl (false, 6, stu s)), (5, .inr (3, [.ref 6, .int (nI n)])), (6, .inl (false, 60, f)), (26, .inr (5, [.ref 27, .int (nI (wA w)), .int (-6), .int (-6), .int (wF w), .int (wG w), .int (wH w)])), (27, .inr (0, [.ref 28, .ref 29, .ref 30, .int (skn (wS w)), .int (sdr (wS w)), .int (swa (wS w)), .int (sbu (wS w)), .int (sni (wS w))])), (28, .inl (false, 6, sce (wS w))), (29, .inl (false, 6, she (wS w))), (30, .inl (false, 6, stu (wS w)))]) rfl) (Nat.le_of_ble_eq_true rfl) (fun _ _ hq9 => E_fgo ?_ hq9)
            show E _ _ 89 [.ref 26, .ref 5, .ref 1, .int (nI (hN (f p))), .int (nI (p + 1)), .int 42, .int 3, .int (-55), l8] [.int (rsn (wS w) 3 (hN (f p)) (-55))] (hov hp [(1, .inr (0, [.ref 2, .ref 3, .ref 4, .int (skn s), .int (sdr s), .int (swa s), .int (sbu s), .int (sni s)])), (2, .inl (false, 6, sce s)), (3, .inl (false, 6, she s)), (4, .inl (false, 6, stu s)), (5, .inr (3, [.ref 6, .int (nI n)])), (6, .inl (false, 60, f)), (26, .inr (5, [.ref 27, .int (nI (wA w)), .int (-6), .int (-6), .int (wF w), .int (wG w), .int (wH w)])), (27, .inr (0, [.ref 28, .ref 29, .ref 30, .int (skn (wS w)), .int (sdr (wS w)), .int (swa (wS w)), .int (sbu (wS w)), .int (sni (wS w))])), (28, .inl (false, 6, sce (wS w))), (29, .inl (false, 6, she (wS w))), (30, .inl (false, 6, stu (wS w)))]) _
            refine E_istore (l2 := [.ref 26, .ref 5, .ref 1, .int (nI (hN (f p))), .int (nI (p + 1)), .int 42, .int 3, .int (-55), .int (rsn (wS w) 3 (hN (f p)) (-55))]) dX5_tryOut_89 (by decide) rfl ?_
            refine E_iload dX5_tryOut_91 rfl ?_
            refine E_if_eq (tgt := 112) dX5_tryOut_93 (by decide) (fun c93 => ?_) (fun c93 => ?_)
            · refine E_aload_n dX5_tryOut_112 rfl ?_
              refine E_aload_n dX5_tryOut_113 rfl ?_
              refine E_get dX5_tryOut_114 fX5_12 (by decide) rfl rfl ?_
              refine E_iload dX5_tryOut_117 rfl ?_
              refine E_iload_n dX5_tryOut_119 rfl ?_
              refine E_iload dX5_tryOut_120 rfl ?_
              refine E_callV (As := [.int 3, .int (nI (hN (f p))), .int (-55)]) (l' := [.ref 27, .int 3, .int (nI (hN (f p))), .int (-55)]) (st := [.ref 26]) dX5_tryOut_122 kX5_57 iX0_perform vX0_perform (by decide) rfl rfl MX0_perform rfl rfl (Nat.le_of_ble_eq_true rfl) (FC.use (c_perform_3 d (wS w) (hN (f p)) (by first | omega | exact hh.1) (-55)) rfl (L2 := [(1, .inr (0, [.ref 2, .ref 3, .ref 4, .int (skn s), .int (sdr s), .int (swa s), .int (sbu s), .int (sni s)])), (2, .inl (false, 6, sce s)), (3, .inl (false, 6, she s)), (4, .inl (false, 6, stu s)), (5, .inr (3, [.ref 6, .int (nI n)])), (6, .inl (false, 60, f)), (26, .inr (5, [.ref 27, .int (nI (wA w)), .int (-6), .int (-6), .int (wF w), .int (wG w), .int (wH w)])), (27, .inr (0, [.ref 28, .ref 29, .ref 30, .int (skn (prS (wS w) 3 (hN (f p)) (-55))), .int (sdr (prS (wS w) 3 (hN (f p)) (-55))), .int (swa (prS (wS w) 3 (hN (f p)) (-55))), .int (sbu (prS (wS w) 3 (hN (f p)) (-55))), .int (sni (prS (wS w) 3 (hN (f p)) (-55)))])), (28, .inl (false, 6, sce (prS (wS w) 3 (hN (f p)) (-55)))), (29, .inl (false, 6, she (prS (wS w) 3 (hN (f p)) (-55)))), (30, .inl (false, 6, stu (prS (wS w) 3 (hN (f p)) (-55))))]) rfl) (Nat.le_of_ble_eq_true rfl) (fun _ _ hq9 => E_fgo ?_ hq9)
              show E _ _ 125 [.ref 26, .ref 5, .ref 1, .int (nI (hN (f p))), .int (nI (p + 1)), .int 42, .int 3, .int (-55), .int (rsn (wS w) 3 (hN (f p)) (-55))] [.int (prF (wS w) 3), .ref 26] (hov hp [(1, .inr (0, [.ref 2, .ref 3, .ref 4, .int (skn s), .int (sdr s), .int (swa s), .int (sbu s), .int (sni s)])), (2, .inl (false, 6, sce s)), (3, .inl (false, 6, she s)), (4, .inl (false, 6, stu s)), (5, .inr (3, [.ref 6, .int (nI n)])), (6, .inl (false, 60, f)), (26, .inr (5, [.ref 27, .int (nI (wA w)), .int (-6), .int (-6), .int (wF w), .int (wG w), .int (wH w)])), (27, .inr (0, [.ref 28, .ref 29, .ref 30, .int (skn (prS (wS w) 3 (hN (f p)) (-55))), .int (sdr (prS (wS w) 3 (hN (f p)) (-55))), .int (swa (prS (wS w) 3 (hN (f p)) (-55))), .int (sbu (prS (wS w) 3 (hN (f p)) (-55))), .int (sni (prS (wS w) 3 (hN (f p)) (-55)))])), (28, .inl (false, 6, sce (prS (wS w) 3 (hN (f p)) (-55)))), (29, .inl (false, 6, she (prS (wS w) 3 (hN (f p)) (-55)))), (30, .inl (false, 6, stu (prS (wS w) 3 (hN (f p)) (-55))))]) _
              refine E_callV (As := [.int (prF (wS w) 3)]) (l' := [.ref 26, .int (prF (wS w) 3), .null]) (st := []) dX5_tryOut_125 kX5_60 iX5_noteFlares vX5_noteFlares (by decide) rfl rfl MX5_noteFlares rfl rfl (Nat.le_of_ble_eq_true rfl) (FC.use (c_noteFlares (d + 3) (nI (wA w)) (prF (wS w) 3) (-6) (-6) (wF w) (wG w) (wH w)) rfl (L2 := [(1, .inr (0, [.ref 2, .ref 3, .ref 4, .int (skn s), .int (sdr s), .int (swa s), .int (sbu s), .int (sni s)])), (2, .inl (false, 6, sce s)), (3, .inl (false, 6, she s)), (4, .inl (false, 6, stu s)), (5, .inr (3, [.ref 6, .int (nI n)])), (6, .inl (false, 60, f)), (26, .inr (5, [.ref 27, .int (nI (wA w)), .int (-6), .int (-6), .int (wF w + bcI (prF (wS w) 3)), .int (ntG (nI (wA w)) (prF (wS w) 3) (wG w) (wH w)), .int (ntH (nI (wA w)) (prF (wS w) 3) (wG w) (wH w))])), (27, .inr (0, [.ref 28, .ref 29, .ref 30, .int (skn (prS (wS w) 3 (hN (f p)) (-55))), .int (sdr (prS (wS w) 3 (hN (f p)) (-55))), .int (swa (prS (wS w) 3 (hN (f p)) (-55))), .int (sbu (prS (wS w) 3 (hN (f p)) (-55))), .int (sni (prS (wS w) 3 (hN (f p)) (-55)))])), (28, .inl (false, 6, sce (prS (wS w) 3 (hN (f p)) (-55)))), (29, .inl (false, 6, she (prS (wS w) 3 (hN (f p)) (-55)))), (30, .inl (false, 6, stu (prS (wS w) 3 (hN (f p)) (-55))))]) rfl) (Nat.le_of_ble_eq_true rfl) (fun _ _ hq9 => E_fgo ?_ hq9)
              show E _ _ 128 [.ref 26, .ref 5, .ref 1, .int (nI (hN (f p))), .int (nI (p + 1)), .int 42, .int 3, .int (-55), .int (rsn (wS w) 3 (hN (f p)) (-55))] [] (hov hp [(1, .inr (0, [.ref 2, .ref 3, .ref 4, .int (skn s), .int (sdr s), .int (swa s), .int (sbu s), .int (sni s)])), (2, .inl (false, 6, sce s)), (3, .inl (false, 6, she s)), (4, .inl (false, 6, stu s)), (5, .inr (3, [.ref 6, .int (nI n)])), (6, .inl (false, 60, f)), (26, .inr (5, [.ref 27, .int (nI (wA w)), .int (-6), .int (-6), .int (wF w + bcI (prF (wS w) 3)), .int (ntG (nI (wA w)) (prF (wS w) 3) (wG w) (wH w)), .int (ntH (nI (wA w)) (prF (wS w) 3) (wG w) (wH w))])), (27, .inr (0, [.ref 28, .ref 29, .ref 30, .int (skn (prS (wS w) 3 (hN (f p)) (-55))), .int (sdr (prS (wS w) 3 (hN (f p)) (-55))), .int (swa (prS (wS w) 3 (hN (f p)) (-55))), .int (sbu (prS (wS w) 3 (hN (f p)) (-55))), .int (sni (prS (wS w) 3 (hN (f p)) (-55)))])), (28, .inl (false, 6, sce (prS (wS w) 3 (hN (f p)) (-55)))), (29, .inl (false, 6, she (prS (wS w) 3 (hN (f p)) (-55)))), (30, .inl (false, 6, stu (prS (wS w) 3 (hN (f p)) (-55))))]) _
              refine E_aload_n dX5_tryOut_128 rfl ?_
              refine E_dup dX5_tryOut_129 rfl ?_
              refine E_get dX5_tryOut_130 fX5_48 (by decide) rfl rfl ?_
              refine E_iconst (v := 1) dX5_tryOut_133 (by decide) ?_
              refine E_iadd dX5_tryOut_134 ?_
              refine E_eqi (y := nI (wA w + 1)) (nI_1 _) ?_
              refine E_puti (fs2 := [.ref 27, .int (nI (wA w + 1)), .int (-6), .int (-6), .int (wF w + bcI (prF (wS w) 3)), .int (ntG (nI (wA w)) (prF (wS w) 3) (wG w) (wH w)), .int (ntH (nI (wA w)) (prF (wS w) 3) (wG w) (wH w))]) (L2 := [(1, .inr (0, [.ref 2, .ref 3, .ref 4, .int (skn s), .int (sdr s), .int (swa s), .int (sbu s), .int (sni s)])), (2, .inl (false, 6, sce s)), (3, .inl (false, 6, she s)), (4, .inl (false, 6, stu s)), (5, .inr (3, [.ref 6, .int (nI n)])), (6, .inl (false, 60, f)), (26, .inr (5, [.ref 27, .int (nI (wA w + 1)), .int (-6), .int (-6), .int (wF w + bcI (prF (wS w) 3)), .int (ntG (nI (wA w)) (prF (wS w) 3) (wG w) (wH w)), .int (ntH (nI (wA w)) (prF (wS w) 3) (wG w) (wH w))])), (27, .inr (0, [.ref 28, .ref 29, .ref 30, .int (skn (prS (wS w) 3 (hN (f p)) (-55))), .int (sdr (prS (wS w) 3 (hN (f p)) (-55))), .int (swa (prS (wS w) 3 (hN (f p)) (-55))), .int (sbu (prS (wS w) 3 (hN (f p)) (-55))), .int (sni (prS (wS w) 3 (hN (f p)) (-55)))])), (28, .inl (false, 6, sce (prS (wS w) 3 (hN (f p)) (-55)))), (29, .inl (false, 6, she (prS (wS w) 3 (hN (f p)) (-55)))), (30, .inl (false, 6, stu (prS (wS w) 3 (hN (f p)) (-55))))]) dX5_tryOut_135 fX5_48 fpX5_1 (by decide) rfl (Nat.le_of_ble_eq_true rfl) rfl rfl ?_
              refine E_iinc (y := nI (p + 1 + 1)) (l2 := [.ref 26, .ref 5, .ref 1, .int (nI (hN (f p))), .int (nI (p + 1 + 1)), .int 42, .int 3, .int (-55), .int (rsn (wS w) 3 (hN (f p)) (-55))]) dX5_tryOut_138 rfl (nI_1 _) (by decide) rfl ?_
              refine E_goto (tgt := 21) dX5_tryOut_141 (by decide) ?_
              have e9 := ih _ (by omega) (p + 2) (wkn w 3 (hN (f p)) (-55)) (nI (hN (f p))) (.int 42) (.int 3) (.int (-55)) (.int (rsn (wS w) 3 (hN (f p)) (-55))) (by omega) hfl (by rw [← he, wk_a0 h46 (by rw [hd]; decide) rfl (by rw [hd]; decide) c93])
              simp only [wkn_S, wkn_A, wkn_F, wkn_G, wkn_H] at e9
              exact e9
            · refine E_aload_n dX5_tryOut_96 rfl ?_
              refine E_aload_n dX5_tryOut_97 rfl ?_
              refine E_get dX5_tryOut_98 fX5_48 (by decide) rfl rfl ?_
              refine E_puti (fs2 := [.ref 27, .int (nI (wA w)), .int (nI (wA w)), .int (-6), .int (wF w), .int (wG w), .int (wH w)]) (L2 := [(1, .inr (0, [.ref 2, .ref 3, .ref 4, .int (skn s), .int (sdr s), .int (swa s), .int (sbu s), .int (sni s)])), (2, .inl (false, 6, sce s)), (3, .inl (false, 6, she s)), (4, .inl (false, 6, stu s)), (5, .inr (3, [.ref 6, .int (nI n)])), (6, .inl (false, 60, f)), (26, .inr (5, [.ref 27, .int (nI (wA w)), .int (nI (wA w)), .int (-6), .int (wF w), .int (wG w), .int (wH w)])), (27, .inr (0, [.ref 28, .ref 29, .ref 30, .int (skn (wS w)), .int (sdr (wS w)), .int (swa (wS w)), .int (sbu (wS w)), .int (sni (wS w))])), (28, .inl (false, 6, sce (wS w))), (29, .inl (false, 6, she (wS w))), (30, .inl (false, 6, stu (wS w)))]) dX5_tryOut_101 fX5_51 fpX5_2 (by decide) rfl (Nat.le_of_ble_eq_true rfl) rfl rfl ?_
              refine E_aload_n dX5_tryOut_104 rfl ?_
              refine E_iload dX5_tryOut_105 rfl ?_
              refine E_puti (fs2 := [.ref 27, .int (nI (wA w)), .int (nI (wA w)), .int (rsn (wS w) 3 (hN (f p)) (-55)), .int (wF w), .int (wG w), .int (wH w)]) (L2 := [(1, .inr (0, [.ref 2, .ref 3, .ref 4, .int (skn s), .int (sdr s), .int (swa s), .int (sbu s), .int (sni s)])), (2, .inl (false, 6, sce s)), (3, .inl (false, 6, she s)), (4, .inl (false, 6, stu s)), (5, .inr (3, [.ref 6, .int (nI n)])), (6, .inl (false, 60, f)), (26, .inr (5, [.ref 27, .int (nI (wA w)), .int (nI (wA w)), .int (rsn (wS w) 3 (hN (f p)) (-55)), .int (wF w), .int (wG w), .int (wH w)])), (27, .inr (0, [.ref 28, .ref 29, .ref 30, .int (skn (wS w)), .int (sdr (wS w)), .int (swa (wS w)), .int (sbu (wS w)), .int (sni (wS w))])), (28, .inl (false, 6, sce (wS w))), (29, .inl (false, 6, she (wS w))), (30, .inl (false, 6, stu (wS w)))]) dX5_tryOut_107 fX5_54 fpX5_3 (by decide) rfl (Nat.le_of_ble_eq_true rfl) rfl rfl ?_
              refine E_iconst (v := 0) dX5_tryOut_110 (by decide) ?_
              exact E_iretf dX5_tryOut_111 rfl (b2i_nar _) (by rw [← he, wk_a1 h46 (by rw [hd]; decide) rfl (by rw [hd]; decide) c93]; simp [b2i, c93]) (by rw [← he, wk_a1 h46 (by rw [hd]; decide) rfl (by rw [hd]; decide) c93]; simp [stA, stW, c93])
          · refine E_iload dX5_tryOut_21 rfl ?_
            refine E_aload_n dX5_tryOut_23 rfl ?_
            refine E_get dX5_tryOut_24 fX5_28 (by decide) rfl rfl ?_
            refine E_icmp_ge (tgt := 144) dX5_tryOut_27 (by decide) (fun c => absurd c (nI_ge (by omega) (by omega))) (fun _ => ?_)
            refine E_iload dX5_tryOut_30 rfl ?_
            refine E_bipush (v := 60) dX5_tryOut_32 (by decide) ?_
            refine E_icmp_ge (tgt := 144) dX5_tryOut_34 (by decide) (fun c => absurd c (cI_nle (n := 60) rfl (by omega) (by decide))) (fun _ => ?_)
            refine E_aload_n dX5_tryOut_37 rfl ?_
            refine E_get dX5_tryOut_38 fX5_32 (by decide) rfl rfl ?_
            refine E_iload dX5_tryOut_41 rfl ?_
            refine E_ialdN (j := p + 1) dX5_tryOut_43 (by decide) rfl (by omega) (by decide) ?_
            refine E_eqi (y := 94) hd ?_
            refine E_istore (l2 := [.ref 26, .ref 5, .ref 1, .int (nI (hN (f p))), .int (nI (p + 1)), .int 94, l6, l7, l8]) dX5_tryOut_44 (by decide) rfl ?_
            refine E_iload dX5_tryOut_46 rfl ?_
            refine E_callS (As := [.int 94]) (l' := [.int 94]) (st := []) dX5_tryOut_48 kX5_36 sX3_isHeapLetter MX3_isHeapLetter rfl rfl (Nat.le_of_ble_eq_true rfl) (FC.use (c_isHeapLetter (d + 3) _) rfl (L2 := [(1, .inr (0, [.ref 2, .ref 3, .ref 4, .int (skn s), .int (sdr s), .int (swa s), .int (sbu s), .int (sni s)])), (2, .inl (false, 6, sce s)), (3, .inl (false, 6, she s)), (4, .inl (false, 6, stu s)), (5, .inr (3, [.ref 6, .int (nI n)])), (6, .inl (false, 60, f)), (26, .inr (5, [.ref 27, .int (nI (wA w)), .int (-6), .int (-6), .int (wF w), .int (wG w), .int (wH w)])), (27, .inr (0, [.ref 28, .ref 29, .ref 30, .int (skn (wS w)), .int (sdr (wS w)), .int (swa (wS w)), .int (sbu (wS w)), .int (sni (wS w))])), (28, .inl (false, 6, sce (wS w))), (29, .inl (false, 6, she (wS w))), (30, .inl (false, 6, stu (wS w)))]) rfl) (Nat.le_of_ble_eq_true rfl) (fun _ _ hq9 => E_fgo ?_ hq9)
            show E _ _ 51 [.ref 26, .ref 5, .ref 1, .int (nI (hN (f p))), .int (nI (p + 1)), .int 94, l6, l7, l8] [.int (b2i (letB 94))] (hov hp [(1, .inr (0, [.ref 2, .ref 3, .ref 4, .int (skn s), .int (sdr s), .int (swa s), .int (sbu s), .int (sni s)])), (2, .inl (false, 6, sce s)), (3, .inl (false, 6, she s)), (4, .inl (false, 6, stu s)), (5, .inr (3, [.ref 6, .int (nI n)])), (6, .inl (false, 60, f)), (26, .inr (5, [.ref 27, .int (nI (wA w)), .int (-6), .int (-6), .int (wF w), .int (wG w), .int (wH w)])), (27, .inr (0, [.ref 28, .ref 29, .ref 30, .int (skn (wS w)), .int (sdr (wS w)), .int (swa (wS w)), .int (sbu (wS w)), .int (sni (wS w))])), (28, .inl (false, 6, sce (wS w))), (29, .inl (false, 6, she (wS w))), (30, .inl (false, 6, stu (wS w)))]) _
            refine E_if_eq (tgt := 63) dX5_tryOut_51 (by decide) (fun _ => ?_) (fun c => absurd (by rfl) c)
            refine E_iload dX5_tryOut_63 rfl ?_
            refine E_callS (As := [.int 94]) (l' := [.int 94]) (st := []) dX5_tryOut_65 kX5_40 sX3_kindOf MX3_kindOf rfl rfl (Nat.le_of_ble_eq_true rfl) (FC.use (c_kind_94 (d + 4)) rfl (L2 := [(1, .inr (0, [.ref 2, .ref 3, .ref 4, .int (skn s), .int (sdr s), .int (swa s), .int (sbu s), .int (sni s)])), (2, .inl (false, 6, sce s)), (3, .inl (false, 6, she s)), (4, .inl (false, 6, stu s)), (5, .inr (3, [.ref 6, .int (nI n)])), (6, .inl (false, 60, f)), (26, .inr (5, [.ref 27, .int (nI (wA w)), .int (-6), .int (-6), .int (wF w), .int (wG w), .int (wH w)])), (27, .inr (0, [.ref 28, .ref 29, .ref 30, .int (skn (wS w)), .int (sdr (wS w)), .int (swa (wS w)), .int (sbu (wS w)), .int (sni (wS w))])), (28, .inl (false, 6, sce (wS w))), (29, .inl (false, 6, she (wS w))), (30, .inl (false, 6, stu (wS w)))]) rfl) (Nat.le_of_ble_eq_true rfl) (fun _ _ hq9 => E_fgo ?_ hq9)
            show E _ _ 68 [.ref 26, .ref 5, .ref 1, .int (nI (hN (f p))), .int (nI (p + 1)), .int 94, l6, l7, l8] [.int 4] (hov hp [(1, .inr (0, [.ref 2, .ref 3, .ref 4, .int (skn s), .int (sdr s), .int (swa s), .int (sbu s), .int (sni s)])), (2, .inl (false, 6, sce s)), (3, .inl (false, 6, she s)), (4, .inl (false, 6, stu s)), (5, .inr (3, [.ref 6, .int (nI n)])), (6, .inl (false, 60, f)), (26, .inr (5, [.ref 27, .int (nI (wA w)), .int (-6), .int (-6), .int (wF w), .int (wG w), .int (wH w)])), (27, .inr (0, [.ref 28, .ref 29, .ref 30, .int (skn (wS w)), .int (sdr (wS w)), .int (swa (wS w)), .int (sbu (wS w)), .int (sni (wS w))])), (28, .inl (false, 6, sce (wS w))), (29, .inl (false, 6, she (wS w))), (30, .inl (false, 6, stu (wS w)))]) _
            refine E_istore (l2 := [.ref 26, .ref 5, .ref 1, .int (nI (hN (f p))), .int (nI (p + 1)), .int 94, .int 4, l7, l8]) dX5_tryOut_68 (by decide) rfl ?_
            refine E_iload dX5_tryOut_70 rfl ?_
            refine E_bipush (v := 97) dX5_tryOut_72 (by decide) ?_
            refine E_isub dX5_tryOut_74 ?_
            refine E_eqi (y := (-3)) (by decide) ?_
            refine E_eqi (y := (-3)) (by decide) ?_
            refine E_istore (l2 := [.ref 26, .ref 5, .ref 1, .int (nI (hN (f p))), .int (nI (p + 1)), .int 94, .int 4, .int (-3), l8]) dX5_tryOut_75 (by decide) rfl ?_
            refine E_aload_n dX5_tryOut_77 rfl ?_
            refine E_get dX5_tryOut_78 fX5_12 (by decide) rfl rfl ?_
            refine E_iload dX5_tryOut_81 rfl ?_
            refine E_iload_n dX5_tryOut_83 rfl ?_
            refine E_iload dX5_tryOut_84 rfl ?_
            refine E_callV (As := [.int 4, .int (nI (hN (f p))), .int (-3)]) (l' := [.ref 27, .int 4, .int (nI (hN (f p))), .int (-3)]) (st := []) dX5_tryOut_86 kX5_44 iX0_reasonAgainst vX0_reasonAgainst (by decide) rfl rfl MX0_reasonAgainst rfl rfl (Nat.le_of_ble_eq_true rfl) (FC.use (c_reason_4 (d + 3) (wS w) (hN (f p)) (by first | omega | exact hh.1) (-3)) rfl (L2 := [(1, .inr (0, [.ref 2, .ref 3, .ref 4, .int (skn s), .int (sdr s), .int (swa s), .int (sbu s), .int (sni s)])), (2, .inl (false, 6, sce s)), (3, .inl (false, 6, she s)), (4, .inl (false, 6, stu s)), (5, .inr (3, [.ref 6, .int (nI n)])), (6, .inl (false, 60, f)), (26, .inr (5, [.ref 27, .int (nI (wA w)), .int (-6), .int (-6), .int (wF w), .int (wG w), .int (wH w)])), (27, .inr (0, [.ref 28, .ref 29, .ref 30, .int (skn (wS w)), .int (sdr (wS w)), .int (swa (wS w)), .int (sbu (wS w)), .int (sni (wS w))])), (28, .inl (false, 6, sce (wS w))), (29, .inl (false, 6, she (wS w))), (30, .inl (false, 6, stu (wS w)))]) rfl) (Nat.le_of_ble_eq_true rfl) (fun _ _ hq9 => E_fgo ?_ hq9)
            show E _ _ 89 [.ref 26, .ref 5, .ref 1, .int (nI (hN (f p))), .int (nI (p + 1)), .int 94, .int 4, .int (-3), l8] [.int (rsn (wS w) 4 (hN (f p)) (-3))] (hov hp [(1, .inr (0, [.ref 2, .ref 3, .ref 4, .int (skn s), .int (sdr s), .int (swa s), .int (sbu s), .int (sni s)])), (2, .inl (false, 6, sce s)), (3, .inl (false, 6, she s)), (4, .inl (false, 6, stu s)), (5, .inr (3, [.ref 6, .int (nI n)])), (6, .inl (false, 60, f)), (26, .inr (5, [.ref 27, .int (nI (wA w)), .int (-6), .int (-6), .int (wF w), .int (wG w), .int (wH w)])), (27, .inr (0, [.ref 28, .ref 29, .ref 30, .int (skn (wS w)), .int (sdr (wS w)), .int (swa (wS w)), .int (sbu (wS w)), .int (sni (wS w))])), (28, .inl (false, 6, sce (wS w))), (29, .inl (false, 6, she (wS w))), (30, .inl (false, 6, stu (wS w)))]) _
            refine E_istore (l2 := [.ref 26, .ref 5, .ref 1, .int (nI (hN (f p))), .int (nI (p + 1)), .int 94, .int 4, .int (-3), .int (rsn (wS w) 4 (hN (f p)) (-3))]) dX5_tryOut_89 (by decide) rfl ?_
            refine E_iload dX5_tryOut_91 rfl ?_
            refine E_if_eq (tgt := 112) dX5_tryOut_93 (by decide) (fun c93 => ?_) (fun c93 => ?_)
            · refine E_aload_n dX5_tryOut_112 rfl ?_
              refine E_aload_n dX5_tryOut_113 rfl ?_
              refine E_get dX5_tryOut_114 fX5_12 (by decide) rfl rfl ?_
              refine E_iload dX5_tryOut_117 rfl ?_
              refine E_iload_n dX5_tryOut_119 rfl ?_
              refine E_iload dX5_tryOut_120 rfl ?_
              refine E_callV (As := [.int 4, .int (nI (hN (f p))), .int (-3)]) (l' := [.ref 27, .int 4, .int (nI (hN (f p))), .int (-3)]) (st := [.ref 26]) dX5_tryOut_122 kX5_57 iX0_perform vX0_perform (by decide) rfl rfl MX0_perform rfl rfl (Nat.le_of_ble_eq_true rfl) (FC.use (c_perform_4 d (wS w) (hN (f p)) (by first | omega | exact hh.1) (-3)) rfl (L2 := [(1, .inr (0, [.ref 2, .ref 3, .ref 4, .int (skn s), .int (sdr s), .int (swa s), .int (sbu s), .int (sni s)])), (2, .inl (false, 6, sce s)), (3, .inl (false, 6, she s)), (4, .inl (false, 6, stu s)), (5, .inr (3, [.ref 6, .int (nI n)])), (6, .inl (false, 60, f)), (26, .inr (5, [.ref 27, .int (nI (wA w)), .int (-6), .int (-6), .int (wF w), .int (wG w), .int (wH w)])), (27, .inr (0, [.ref 28, .ref 29, .ref 30, .int (skn (prS (wS w) 4 (hN (f p)) (-3))), .int (sdr (prS (wS w) 4 (hN (f p)) (-3))), .int (swa (prS (wS w) 4 (hN (f p)) (-3))), .int (sbu (prS (wS w) 4 (hN (f p)) (-3))), .int (sni (prS (wS w) 4 (hN (f p)) (-3)))])), (28, .inl (false, 6, sce (prS (wS w) 4 (hN (f p)) (-3)))), (29, .inl (false, 6, she (prS (wS w) 4 (hN (f p)) (-3)))), (30, .inl (false, 6, stu (prS (wS w) 4 (hN (f p)) (-3))))]) rfl) (Nat.le_of_ble_eq_true rfl) (fun _ _ hq9 => E_fgo ?_ hq9)
              show E _ _ 125 [.ref 26, .ref 5, .ref 1, .int (nI (hN (f p))), .int (nI (p + 1)), .int 94, .int 4, .int (-3), .int (rsn (wS w) 4 (hN (f p)) (-3))] [.int (prF (wS w) 4), .ref 26] (hov hp [(1, .inr (0, [.ref 2, .ref 3, .ref 4, .int (skn s), .int (sdr s), .int (swa s), .int (sbu s), .int (sni s)])), (2, .inl (false, 6, sce s)), (3, .inl (false, 6, she s)), (4, .inl (false, 6, stu s)), (5, .inr (3, [.ref 6, .int (nI n)])), (6, .inl (false, 60, f)), (26, .inr (5, [.ref 27, .int (nI (wA w)), .int (-6), .int (-6), .int (wF w), .int (wG w), .int (wH w)])), (27, .inr (0, [.ref 28, .ref 29, .ref 30, .int (skn (prS (wS w) 4 (hN (f p)) (-3))), .int (sdr (prS (wS w) 4 (hN (f p)) (-3))), .int (swa (prS (wS w) 4 (hN (f p)) (-3))), .int (sbu (prS (wS w) 4 (hN (f p)) (-3))), .int (sni (prS (wS w) 4 (hN (f p)) (-3)))])), (28, .inl (false, 6, sce (prS (wS w) 4 (hN (f p)) (-3)))), (29, .inl (false, 6, she (prS (wS w) 4 (hN (f p)) (-3)))), (30, .inl (false, 6, stu (prS (wS w) 4 (hN (f p)) (-3))))]) _
              refine E_callV (As := [.int (prF (wS w) 4)]) (l' := [.ref 26, .int (prF (wS w) 4), .null]) (st := []) dX5_tryOut_125 kX5_60 iX5_noteFlares vX5_noteFlares (by decide) rfl rfl MX5_noteFlares rfl rfl (Nat.le_of_ble_eq_true rfl) (FC.use (c_noteFlares (d + 3) (nI (wA w)) (prF (wS w) 4) (-6) (-6) (wF w) (wG w) (wH w)) rfl (L2 := [(1, .inr (0, [.ref 2, .ref 3, .ref 4, .int (skn s), .int (sdr s), .int (swa s), .int (sbu s), .int (sni s)])), (2, .inl (false, 6, sce s)), (3, .inl (false, 6, she s)), (4, .inl (false, 6, stu s)), (5, .inr (3, [.ref 6, .int (nI n)])), (6, .inl (false, 60, f)), (26, .inr (5, [.ref 27, .int (nI (wA w)), .int (-6), .int (-6), .int (wF w + bcI (prF (wS w) 4)), .int (ntG (nI (wA w)) (prF (wS w) 4) (wG w) (wH w)), .int (ntH (nI (wA w)) (prF (wS w) 4) (wG w) (wH w))])), (27, .inr (0, [.ref 28, .ref 29, .ref 30, .int (skn (prS (wS w) 4 (hN (f p)) (-3))), .int (sdr (prS (wS w) 4 (hN (f p)) (-3))), .int (swa (prS (wS w) 4 (hN (f p)) (-3))), .int (sbu (prS (wS w) 4 (hN (f p)) (-3))), .int (sni (prS (wS w) 4 (hN (f p)) (-3)))])), (28, .inl (false, 6, sce (prS (wS w) 4 (hN (f p)) (-3)))), (29, .inl (false, 6, she (prS (wS w) 4 (hN (f p)) (-3)))), (30, .inl (false, 6, stu (prS (wS w) 4 (hN (f p)) (-3))))]) rfl) (Nat.le_of_ble_eq_true rfl) (fun _ _ hq9 => E_fgo ?_ hq9)
              show E _ _ 128 [.ref 26, .ref 5, .ref 1, .int (nI (hN (f p))), .int (nI (p + 1)), .int 94, .int 4, .int (-3), .int (rsn (wS w) 4 (hN (f p)) (-3))] [] (hov hp [(1, .inr (0, [.ref 2, .ref 3, .ref 4, .int (skn s), .int (sdr s), .int (swa s), .int (sbu s), .int (sni s)])), (2, .inl (false, 6, sce s)), (3, .inl (false, 6, she s)), (4, .inl (false, 6, stu s)), (5, .inr (3, [.ref 6, .int (nI n)])), (6, .inl (false, 60, f)), (26, .inr (5, [.ref 27, .int (nI (wA w)), .int (-6), .int (-6), .int (wF w + bcI (prF (wS w) 4)), .int (ntG (nI (wA w)) (prF (wS w) 4) (wG w) (wH w)), .int (ntH (nI (wA w)) (prF (wS w) 4) (wG w) (wH w))])), (27, .inr (0, [.ref 28, .ref 29, .ref 30, .int (skn (prS (wS w) 4 (hN (f p)) (-3))), .int (sdr (prS (wS w) 4 (hN (f p)) (-3))), .int (swa (prS (wS w) 4 (hN (f p)) (-3))), .int (sbu (prS (wS w) 4 (hN (f p)) (-3))), .int (sni (prS (wS w) 4 (hN (f p)) (-3)))])), (28, .inl (false, 6, sce (prS (wS w) 4 (hN (f p)) (-3)))), (29, .inl (false, 6, she (prS (wS w) 4 (hN (f p)) (-3)))), (30, .inl (false, 6, stu (prS (wS w) 4 (hN (f p)) (-3))))]) _
              refine E_aload_n dX5_tryOut_128 rfl ?_
              refine E_dup dX5_tryOut_129 rfl ?_
              refine E_get dX5_tryOut_130 fX5_48 (by decide) rfl rfl ?_
              refine E_iconst (v := 1) dX5_tryOut_133 (by decide) ?_
              refine E_iadd dX5_tryOut_134 ?_
              refine E_eqi (y := nI (wA w + 1)) (nI_1 _) ?_
              refine E_puti (fs2 := [.ref 27, .int (nI (wA w + 1)), .int (-6), .int (-6), .int (wF w + bcI (prF (wS w) 4)), .int (ntG (nI (wA w)) (prF (wS w) 4) (wG w) (wH w)), .int (ntH (nI (wA w)) (prF (wS w) 4) (wG w) (wH w))]) (L2 := [(1, .inr (0, [.ref 2, .ref 3, .ref 4, .int (skn s), .int (sdr s), .int (swa s), .int (sbu s), .int (sni s)])), (2, .inl (false, 6, sce s)), (3, .inl (false, 6, she s)), (4, .inl (false, 6, stu s)), (5, .inr (3, [.ref 6, .int (nI n)])), (6, .inl (false, 60, f)), (26, .inr (5, [.ref 27, .int (nI (wA w + 1)), .int (-6), .int (-6), .int (wF w + bcI (prF (wS w) 4)), .int (ntG (nI (wA w)) (prF (wS w) 4) (wG w) (wH w)), .int (ntH (nI (wA w)) (prF (wS w) 4) (wG w) (wH w))])), (27, .inr (0, [.ref 28, .ref 29, .ref 30, .int (skn (prS (wS w) 4 (hN (f p)) (-3))), .int (sdr (prS (wS w) 4 (hN (f p)) (-3))), .int (swa (prS (wS w) 4 (hN (f p)) (-3))), .int (sbu (prS (wS w) 4 (hN (f p)) (-3))), .int (sni (prS (wS w) 4 (hN (f p)) (-3)))])), (28, .inl (false, 6, sce (prS (wS w) 4 (hN (f p)) (-3)))), (29, .inl (false, 6, she (prS (wS w) 4 (hN (f p)) (-3)))), (30, .inl (false, 6, stu (prS (wS w) 4 (hN (f p)) (-3))))]) dX5_tryOut_135 fX5_48 fpX5_1 (by decide) rfl (Nat.le_of_ble_eq_true rfl) rfl rfl ?_
              refine E_iinc (y := nI (p + 1 + 1)) (l2 := [.ref 26, .ref 5, .ref 1, .int (nI (hN (f p))), .int (nI (p + 1 + 1)), .int 94, .int 4, .int (-3), .int (rsn (wS w) 4 (hN (f p)) (-3))]) dX5_tryOut_138 rfl (nI_1 _) (by decide) rfl ?_
              refine E_goto (tgt := 21) dX5_tryOut_141 (by decide) ?_
              have e9 := ih _ (by omega) (p + 2) (wkn w 4 (hN (f p)) (-3)) (nI (hN (f p))) (.int 94) (.int 4) (.int (-3)) (.int (rsn (wS w) 4 (hN (f p)) (-3))) (by omega) hfl (by rw [← he, wk_a0 h46 (by rw [hd]; decide) rfl (by rw [hd]; decide) c93])
              simp only [wkn_S, wkn_A, wkn_F, wkn_G, wkn_H] at e9
              exact e9
            · refine E_aload_n dX5_tryOut_96 rfl ?_
              refine E_aload_n dX5_tryOut_97 rfl ?_
              refine E_get dX5_tryOut_98 fX5_48 (by decide) rfl rfl ?_
              refine E_puti (fs2 := [.ref 27, .int (nI (wA w)), .int (nI (wA w)), .int (-6), .int (wF w), .int (wG w), .int (wH w)]) (L2 := [(1, .inr (0, [.ref 2, .ref 3, .ref 4, .int (skn s), .int (sdr s), .int (swa s), .int (sbu s), .int (sni s)])), (2, .inl (false, 6, sce s)), (3, .inl (false, 6, she s)), (4, .inl (false, 6, stu s)), (5, .inr (3, [.ref 6, .int (nI n)])), (6, .inl (false, 60, f)), (26, .inr (5, [.ref 27, .int (nI (wA w)), .int (nI (wA w)), .int (-6), .int (wF w), .int (wG w), .int (wH w)])), (27, .inr (0, [.ref 28, .ref 29, .ref 30, .int (skn (wS w)), .int (sdr (wS w)), .int (swa (wS w)), .int (sbu (wS w)), .int (sni (wS w))])), (28, .inl (false, 6, sce (wS w))), (29, .inl (false, 6, she (wS w))), (30, .inl (false, 6, stu (wS w)))]) dX5_tryOut_101 fX5_51 fpX5_2 (by decide) rfl (Nat.le_of_ble_eq_true rfl) rfl rfl ?_
              refine E_aload_n dX5_tryOut_104 rfl ?_
              refine E_iload dX5_tryOut_105 rfl ?_
              refine E_puti (fs2 := [.ref 27, .int (nI (wA w)), .int (nI (wA w)), .int (rsn (wS w) 4 (hN (f p)) (-3)), .int (wF w), .int (wG w), .int (wH w)]) (L2 := [(1, .inr (0, [.ref 2, .ref 3, .ref 4, .int (skn s), .int (sdr s), .int (swa s), .int (sbu s), .int (sni s)])), (2, .inl (false, 6, sce s)), (3, .inl (false, 6, she s)), (4, .inl (false, 6, stu s)), (5, .inr (3, [.ref 6, .int (nI n)])), (6, .inl (false, 60, f)), (26, .inr (5, [.ref 27, .int (nI (wA w)), .int (nI (wA w)), .int (rsn (wS w) 4 (hN (f p)) (-3)), .int (wF w), .int (wG w), .int (wH w)])), (27, .inr (0, [.ref 28, .ref 29, .ref 30, .int (skn (wS w)), .int (sdr (wS w)), .int (swa (wS w)), .int (sbu (wS w)), .int (sni (wS w))])), (28, .inl (false, 6, sce (wS w))), (29, .inl (false, 6, she (wS w))), (30, .inl (false, 6, stu (wS w)))]) dX5_tryOut_107 fX5_54 fpX5_3 (by decide) rfl (Nat.le_of_ble_eq_true rfl) rfl rfl ?_
              refine E_iconst (v := 0) dX5_tryOut_110 (by decide) ?_
              exact E_iretf dX5_tryOut_111 rfl (b2i_nar _) (by rw [← he, wk_a1 h46 (by rw [hd]; decide) rfl (by rw [hd]; decide) c93]; simp [b2i, c93]) (by rw [← he, wk_a1 h46 (by rw [hd]; decide) rfl (by rw [hd]; decide) c93]; simp [stA, stW, c93])
  exact L n 0 (wk0 s) 0 _ _ _ _ (by omega) hf rfl
