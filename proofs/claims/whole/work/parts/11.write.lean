/-! a clearing's state: cells, heats, turfs, known, drawn, watched, burners, night -/
abbrev CS : Type := (Nat → Int32) × (Nat → Int32) × (Nat → Int32) × Int32 × Int32 × Int32 × Int32 × Int32
def mkS (ce he tu : Nat → Int32) (kn dr wa bu ni : Int32) : CS := (ce, he, tu, kn, dr, wa, bu, ni)
def sce (s : CS) : Nat → Int32 := s.1
def she (s : CS) : Nat → Int32 := s.2.1
def stu (s : CS) : Nat → Int32 := s.2.2.1
def skn (s : CS) : Int32 := s.2.2.2.1
def sdr (s : CS) : Int32 := s.2.2.2.2.1
def swa (s : CS) : Int32 := s.2.2.2.2.2.1
def sbu (s : CS) : Int32 := s.2.2.2.2.2.2.1
def sni (s : CS) : Int32 := s.2.2.2.2.2.2.2
def offB (x : Int32) (h : Nat) : Int32 := x &&& ((1 <<< (nI h &&& 31)) ^^^ (-1))
def orB (x : Int32) (h : Nat) : Int32 := x ||| (1 <<< (nI h &&& 31))
def xoB (x : Int32) (h : Nat) : Int32 := x ^^^ (1 <<< (nI h &&& 31))
def setTu (s : CS) (t : Nat → Int32) : CS := mkS (sce s) (she s) t (skn s) (sdr s) (swa s) (sbu s) (sni s)
def setKn (s : CS) (x : Int32) : CS := mkS (sce s) (she s) (stu s) x (sdr s) (swa s) (sbu s) (sni s)
def setHe (s : CS) (f : Nat → Int32) : CS := mkS (sce s) f (stu s) (skn s) (sdr s) (swa s) (sbu s) (sni s)
def smX (s : CS) (h : Nat) : Int32 := she s h + 5 - stu s h
def smS (s : CS) (h : Nat) : CS :=
  if smX s h ≤ 0 then mkS (sce s) (upd (she s) h 0) (stu s) (skn s) (orB (sdr s) h) (swa s) (sbu s) (sni s)
  else if smX s h ≤ 9 then mkS (sce s) (upd (she s) h (smX s h)) (stu s) (skn s) (sdr s) (swa s) (sbu s) (sni s)
  else mkS (sce s) (upd (she s) h (bif hbt (swa s) (nI h) then 5 else 9)) (stu s) (skn s) (sdr s) (swa s) (sbu s) (sni s)
def smF (s : CS) (h : Nat) : Bool := decide (¬ smX s h ≤ 0) && (decide (¬ smX s h ≤ 9) && !hbt (swa s) (nI h))
def n1 (s : CS) : Nat → CS × Int32
  | 0 => (mkS (sce s) (she s) (stu s) (skn s) (sdr s) (swa s) (sbu s) (sni s + 1), 0)
  | i + 1 => bif decide (0 < she (n1 s i).1 i) then (smS (n1 s i).1 i, bif smF (n1 s i).1 i then orB (n1 s i).2 i else (n1 s i).2) else n1 s i
def n2 (s : CS) (f : Int32) : Nat → CS
  | 0 => s
  | i + 1 => bif decide (0 < she (n2 s f i) i) then setTu (n2 s f i) (upd (stu (n2 s f i)) i (maxI 0 (stu (n2 s f i) i - cntN (sce (n2 s f i)) i f 6))) else n2 s f i
def ngS (s : CS) : CS := n2 (setKn (n1 s 6).1 (skn (n1 s 6).1 ||| (n1 s 6).2)) (n1 s 6).2 6
def ngF (s : CS) : Int32 := (n1 s 6).2
def ccB (s : CS) (h : Nat) (cov : Int32) : Bool := decide (0 < she s h) && (decide (stu s h ≤ 2) && !hbt cov (nI h))
def flIn (s : CS) (cov f0 : Int32) : Nat → Int32
  | 0 => f0
  | h + 1 => bif ccB s h cov && decide (0 < cntN (sce s) h (flIn s cov f0 h) 6) then orB (flIn s cov f0 h) h else flIn s cov f0 h
def flOut (s : CS) (cov : Int32) (first : Nat) : Nat → Int32
  | 0 => 1 <<< (nI first &&& 31)
  | r + 1 => flIn s cov (flOut s cov first r) 6
theorem flOut_fix {s : CS} {cov : Int32} {first r : Nat} (h : flOut s cov first (r + 1) = flOut s cov first r) : ∀ k, flOut s cov first (r + k) = flOut s cov first r
  | 0 => rfl
  | k + 1 => by
    show flIn s cov (flOut s cov first (r + k)) 6 = _
    rw [flOut_fix h k]
    exact h
def bc1 (x : Int32) : Int32 := x - ((x.toUInt32 >>> ((1 : Int32).toUInt32 &&& Int32.toUInt32 31)).toInt32 &&& 1431655765)
def bc2 (x : Int32) : Int32 := (x &&& 858993459) + ((x.toUInt32 >>> ((2 : Int32).toUInt32 &&& Int32.toUInt32 31)).toInt32 &&& 858993459)
def bc3 (x : Int32) : Int32 := (x + (x.toUInt32 >>> ((4 : Int32).toUInt32 &&& Int32.toUInt32 31)).toInt32) &&& 252645135
def bc4 (x : Int32) : Int32 := x + (x.toUInt32 >>> ((8 : Int32).toUInt32 &&& Int32.toUInt32 31)).toInt32
def bc5 (x : Int32) : Int32 := x + (x.toUInt32 >>> ((16 : Int32).toUInt32 &&& Int32.toUInt32 31)).toInt32
def bcI (x : Int32) : Int32 := bc5 (bc4 (bc3 (bc2 (bc1 x)))) &&& 63
/-- why an act can not be: kind, heap, cell -/
def rsn (s : CS) : Nat → Nat → Int32 → Int32
  | 0, h, cq => if anyB (takP (sce s) cq h) 6 = true then 2 else if 0 < she s h then 3 else 0
  | 1, h, _ => if sce s h = -6 then 1 else if stu s h < 9 then 0 else 5
  | 2, h, _ => if sce s h = -6 then 1 else if 0 < stu s h then 0 else 5
  | 3, h, _ => if sce s h = -6 then 1 else if 0 < she s h then 3 else if hbt (sdr s) (nI h) = true then 4 else 0
  | 4, h, _ => if sce s h = -6 then 1 else if hbt (swa s) (nI h) = true then 0 else if bcI (swa s) < sbu s then 0 else 6
  | _, _, _ => if sni s < 99 then 0 else 7
def prS (s : CS) : Nat → Nat → Int32 → CS
  | 0, h, cq => mkS (upd (sce s) h cq) (she s) (stu s) (skn s) (offB (sdr s) h) (swa s) (sbu s) (sni s)
  | 1, h, _ => setTu s (upd (stu s) h (stu s h + 1))
  | 2, h, _ => setTu s (upd (stu s) h (stu s h - 1))
  | 3, h, _ => setHe s (upd (she s) h 3)
  | 4, h, _ => mkS (sce s) (she s) (stu s) (skn s) (sdr s) (xoB (swa s) h) (sbu s) (sni s)
  | _, _, _ => ngS s
def prF (s : CS) : Nat → Int32
  | 0 => 0
  | 1 => 0
  | 2 => 0
  | 3 => 0
  | 4 => 0
  | _ => ngF s

set_option maxHeartbeats 4000000 in
set_option maxRecDepth 20000 in
theorem c_bitCount (d : Nat) (x : Int32) : FC YJ6_bitCount_0f7a4 d [.int x] [] (some (.int (bcI x))) [] := by
  intro hp
  refine E_iload_n dJ6_bitCount_0f7a4_0 rfl ?_
  refine E_iload_n dJ6_bitCount_0f7a4_1 rfl ?_
  refine E_iconst (v := 1) dJ6_bitCount_0f7a4_2 (by decide) ?_
  refine E_iushr dJ6_bitCount_0f7a4_3 ?_
  refine E_ldcw dJ6_bitCount_0f7a4_4 qJ6_265 ?_
  refine E_iand dJ6_bitCount_0f7a4_7 ?_
  refine E_isub dJ6_bitCount_0f7a4_8 ?_
  refine E_eqi (y := bc1 x) rfl ?_
  refine E_istore_n (l2 := [.int (bc1 x)]) dJ6_bitCount_0f7a4_9 rfl (by decide) rfl ?_
  refine E_iload_n dJ6_bitCount_0f7a4_10 rfl ?_
  refine E_ldcw dJ6_bitCount_0f7a4_11 qJ6_266 ?_
  refine E_iand dJ6_bitCount_0f7a4_14 ?_
  refine E_iload_n dJ6_bitCount_0f7a4_15 rfl ?_
  refine E_iconst (v := 2) dJ6_bitCount_0f7a4_16 (by decide) ?_
  refine E_iushr dJ6_bitCount_0f7a4_17 ?_
  refine E_ldcw dJ6_bitCount_0f7a4_18 qJ6_266 ?_
  refine E_iand dJ6_bitCount_0f7a4_21 ?_
  refine E_iadd dJ6_bitCount_0f7a4_22 ?_
  refine E_eqi (y := bc2 (bc1 x)) rfl ?_
  refine E_istore_n (l2 := [.int (bc2 (bc1 x))]) dJ6_bitCount_0f7a4_23 rfl (by decide) rfl ?_
  refine E_iload_n dJ6_bitCount_0f7a4_24 rfl ?_
  refine E_iload_n dJ6_bitCount_0f7a4_25 rfl ?_
  refine E_iconst (v := 4) dJ6_bitCount_0f7a4_26 (by decide) ?_
  refine E_iushr dJ6_bitCount_0f7a4_27 ?_
  refine E_iadd dJ6_bitCount_0f7a4_28 ?_
  refine E_ldcw dJ6_bitCount_0f7a4_29 qJ6_267 ?_
  refine E_iand dJ6_bitCount_0f7a4_32 ?_
  refine E_eqi (y := bc3 (bc2 (bc1 x))) rfl ?_
  refine E_istore_n (l2 := [.int (bc3 (bc2 (bc1 x)))]) dJ6_bitCount_0f7a4_33 rfl (by decide) rfl ?_
  refine E_iload_n dJ6_bitCount_0f7a4_34 rfl ?_
  refine E_iload_n dJ6_bitCount_0f7a4_35 rfl ?_
  refine E_bipush (v := 8) dJ6_bitCount_0f7a4_36 (by decide) ?_
  refine E_iushr dJ6_bitCount_0f7a4_38 ?_
  refine E_iadd dJ6_bitCount_0f7a4_39 ?_
  refine E_eqi (y := bc4 (bc3 (bc2 (bc1 x)))) rfl ?_
  refine E_istore_n (l2 := [.int (bc4 (bc3 (bc2 (bc1 x))))]) dJ6_bitCount_0f7a4_40 rfl (by decide) rfl ?_
  refine E_iload_n dJ6_bitCount_0f7a4_41 rfl ?_
  refine E_iload_n dJ6_bitCount_0f7a4_42 rfl ?_
  refine E_bipush (v := 16) dJ6_bitCount_0f7a4_43 (by decide) ?_
  refine E_iushr dJ6_bitCount_0f7a4_45 ?_
  refine E_iadd dJ6_bitCount_0f7a4_46 ?_
  refine E_eqi (y := bc5 (bc4 (bc3 (bc2 (bc1 x))))) rfl ?_
  refine E_istore_n (l2 := [.int (bc5 (bc4 (bc3 (bc2 (bc1 x)))))]) dJ6_bitCount_0f7a4_47 rfl (by decide) rfl ?_
  refine E_iload_n dJ6_bitCount_0f7a4_48 rfl ?_
  refine E_bipush (v := 63) dJ6_bitCount_0f7a4_49 (by decide) ?_
  refine E_iand dJ6_bitCount_0f7a4_51 ?_
  exact E_iretf dJ6_bitCount_0f7a4_52 rfl rfl rfl rfl

set_option maxHeartbeats 4000000 in
set_option maxRecDepth 20000 in
theorem c_canCatch (d : Nat) (s : CS) (h : Nat) (hh : h < 6) (cov : Int32) : FC YX0_canCatch (d + 1) [.ref 1, .int (nI h), .int cov] [(1, .inr (0, [.ref 2, .ref 3, .ref 4, .int (skn s), .int (sdr s), .int (swa s), .int (sbu s), .int (sni s)])), (2, .inl (false, 6, sce s)), (3, .inl (false, 6, she s)), (4, .inl (false, 6, stu s))] (some (.int (b2i (ccB s h cov)))) [(1, .inr (0, [.ref 2, .ref 3, .ref 4, .int (skn s), .int (sdr s), .int (swa s), .int (sbu s), .int (sni s)])), (2, .inl (false, 6, sce s)), (3, .inl (false, 6, she s)), (4, .inl (false, 6, stu s))] := by
  intro hp
  refine E_aload_n dX0_canCatch_0 rfl ?_
  refine E_iload_n dX0_canCatch_1 rfl ?_
  refine E_callV (As := [.int (nI h)]) (l' := [.ref 1, .int (nI h)]) (st := []) dX0_canCatch_2 kX0_57 iX0_isAlight vX0_isAlight (by decide) rfl rfl MX0_isAlight rfl rfl (Nat.le_of_ble_eq_true rfl) (FC.use (c_isAlight_now d (sce s) (she s) (stu s) (skn s) (sdr s) (swa s) (sbu s) (sni s) h (by omega)) rfl (L2 := [(1, .inr (0, [.ref 2, .ref 3, .ref 4, .int (skn s), .int (sdr s), .int (swa s), .int (sbu s), .int (sni s)])), (2, .inl (false, 6, sce s)), (3, .inl (false, 6, she s)), (4, .inl (false, 6, stu s))]) rfl) (Nat.le_of_ble_eq_true rfl) (fun _ _ hq9 => E_fgo ?_ hq9)
  show E _ _ 5 [.ref 1, .int (nI h), .int cov] [.int (b2i (decide (0 < she s h)))] (hov hp [(1, .inr (0, [.ref 2, .ref 3, .ref 4, .int (skn s), .int (sdr s), .int (swa s), .int (sbu s), .int (sni s)])), (2, .inl (false, 6, sce s)), (3, .inl (false, 6, she s)), (4, .inl (false, 6, stu s))]) _
  refine E_if_eq (tgt := 30) dX0_canCatch_5 (by decide) (fun c5 => ?_) (fun c5 => ?_)
  · have c5 := b2i_e0 c5
    have c5 := of_decide_eq_false c5
    refine E_iconst (v := 0) dX0_canCatch_30 (by decide) ?_
    exact E_iretf dX0_canCatch_31 rfl (b2i_nar _) (by simp [ccB, b2i, c5]) rfl
  · have c5 := b2i_n0 c5
    have c5 := of_decide_eq_true c5
    refine E_aload_n dX0_canCatch_8 rfl ?_
    refine E_get dX0_canCatch_9 fX0_18 (by decide) rfl rfl ?_
    refine E_iload_n dX0_canCatch_12 rfl ?_
    refine E_ialdN (j := h) dX0_canCatch_13 (by decide) rfl (by omega) (by decide) ?_
    refine E_iconst (v := 2) dX0_canCatch_14 (by decide) ?_
    refine E_icmp_gt (tgt := 30) dX0_canCatch_15 (by decide) (fun c15 => ?_) (fun c15 => ?_)
    · rw [← Int32.not_le] at c15
      refine E_iconst (v := 0) dX0_canCatch_30 (by decide) ?_
      exact E_iretf dX0_canCatch_31 rfl (b2i_nar _) (by simp [ccB, b2i, c5, c15]) rfl
    · rw [Int32.not_lt] at c15
      refine E_iload_n dX0_canCatch_18 rfl ?_
      refine E_iload_n dX0_canCatch_19 rfl ?_
      refine E_callN (As := [.int cov, .int (nI h)]) (l' := [.int cov, .int (nI h)]) (st := []) dX0_canCatch_20 nX0_43 sX6_hasBit MX6_hasBit rfl rfl (Nat.le_of_ble_eq_true rfl) (FC.use (c_hasBit d _ _) rfl (L2 := [(1, .inr (0, [.ref 2, .ref 3, .ref 4, .int (skn s), .int (sdr s), .int (swa s), .int (sbu s), .int (sni s)])), (2, .inl (false, 6, sce s)), (3, .inl (false, 6, she s)), (4, .inl (false, 6, stu s))]) rfl) (Nat.le_of_ble_eq_true rfl) (fun _ _ hq9 => E_fgo ?_ hq9)
      show E _ _ 23 [.ref 1, .int (nI h), .int cov] [.int (b2i (hbt cov (nI h)))] (hov hp [(1, .inr (0, [.ref 2, .ref 3, .ref 4, .int (skn s), .int (sdr s), .int (swa s), .int (sbu s), .int (sni s)])), (2, .inl (false, 6, sce s)), (3, .inl (false, 6, she s)), (4, .inl (false, 6, stu s))]) _
      refine E_if_ne (tgt := 30) dX0_canCatch_23 (by decide) (fun c23 => ?_) (fun c23 => ?_)
      · have c23 := b2i_n0 c23
        refine E_iconst (v := 0) dX0_canCatch_30 (by decide) ?_
        exact E_iretf dX0_canCatch_31 rfl (b2i_nar _) (by simp [ccB, b2i, c5, c15, c23]) rfl
      · have c23 := b2i_e0 c23
        refine E_iconst (v := 1) dX0_canCatch_26 (by decide) ?_
        refine E_goto (tgt := 31) dX0_canCatch_27 (by decide) ?_
        exact E_iretf dX0_canCatch_31 rfl (b2i_nar _) (by simp [ccB, b2i, c5, c15, c23]) rfl

set_option maxHeartbeats 4000000 in
set_option maxRecDepth 20000 in
theorem c_flaringBy (d : Nat) (s : CS) (f : Nat) (hf : f < 6) (cov : Int32) : FC YX0_flaringBy (d + 3) [.ref 1, .int (nI f), .int cov, .null, .null, .null, .null] [(1, .inr (0, [.ref 2, .ref 3, .ref 4, .int (skn s), .int (sdr s), .int (swa s), .int (sbu s), .int (sni s)])), (2, .inl (false, 6, sce s)), (3, .inl (false, 6, she s)), (4, .inl (false, 6, stu s))] (some (.int (flOut s cov f 6))) [(1, .inr (0, [.ref 2, .ref 3, .ref 4, .int (skn s), .int (sdr s), .int (swa s), .int (sbu s), .int (sni s)])), (2, .inl (false, 6, sce s)), (3, .inl (false, 6, she s)), (4, .inl (false, 6, stu s))] := by
  intro hp
  refine E_iconst (v := 1) dX0_flaringBy_0 (by decide) ?_
  refine E_iload_n dX0_flaringBy_1 rfl ?_
  refine E_ishl dX0_flaringBy_2 ?_
  refine E_istore_n (l2 := [.ref 1, .int (nI f), .int cov, .int (1 <<< (nI f &&& 31)), .null, .null, .null]) dX0_flaringBy_3 rfl (by decide) rfl ?_
  refine E_iconst (v := 0) dX0_flaringBy_4 (by decide) ?_
  refine E_istore (l2 := [.ref 1, .int (nI f), .int cov, .int (1 <<< (nI f &&& 31)), .int 0, .null, .null]) dX0_flaringBy_5 (by decide) rfl ?_
  have L7 : ∀ i, i ≤ 6 → ∀ l5 l6 : Value, E YX0_flaringBy (d + 3) 7 [.ref 1, .int (nI f), .int cov, .int (flOut s cov f i), .int (nI i), l5, l6] [] (hov hp [(1, .inr (0, [.ref 2, .ref 3, .ref 4, .int (skn s), .int (sdr s), .int (swa s), .int (sbu s), .int (sni s)])), (2, .inl (false, 6, sce s)), (3, .inl (false, 6, she s)), (4, .inl (false, 6, stu s))]) (fun v h' => v = some (.int (flOut s cov f 6)) ∧ h' = hov hp [(1, .inr (0, [.ref 2, .ref 3, .ref 4, .int (skn s), .int (sdr s), .int (swa s), .int (sbu s), .int (sni s)])), (2, .inl (false, 6, sce s)), (3, .inl (false, 6, she s)), (4, .inl (false, 6, stu s))]) := by
    refine down 6 ?_ ?_
    · intro l5 l6
      refine E_iload dX0_flaringBy_7 rfl ?_
      refine E_bipush (v := 6) dX0_flaringBy_9 (by decide) ?_
      refine E_icmp_ge (tgt := 75) dX0_flaringBy_11 (by decide) (fun _ => ?_) (fun c => absurd (by decide) c)
      refine E_iload_n dX0_flaringBy_75 rfl ?_
      exact E_iretf dX0_flaringBy_76 rfl rfl rfl rfl
    · intro i hi ih l5 l6
      refine E_iload dX0_flaringBy_7 rfl ?_
      refine E_bipush (v := 6) dX0_flaringBy_9 (by decide) ?_
      refine E_icmp_ge (tgt := 75) dX0_flaringBy_11 (by decide) (fun c => absurd c (cI_nle (n := 6) rfl hi (by decide))) (fun _ => ?_)
      refine E_iload_n dX0_flaringBy_14 rfl ?_
      refine E_istore (l2 := [.ref 1, .int (nI f), .int cov, .int (flOut s cov f i), .int (nI i), .int (flOut s cov f i), l6]) dX0_flaringBy_15 (by decide) rfl ?_
      refine E_iconst (v := 0) dX0_flaringBy_17 (by decide) ?_
      refine E_istore (l2 := [.ref 1, .int (nI f), .int cov, .int (flOut s cov f i), .int (nI i), .int (flOut s cov f i), .int 0]) dX0_flaringBy_18 (by decide) rfl ?_
      have L20 : ∀ j, j ≤ 6 → E YX0_flaringBy (d + 3) 20 [.ref 1, .int (nI f), .int cov, .int (flIn s cov (flOut s cov f i) j), .int (nI i), .int (flOut s cov f i), .int (nI j)] [] (hov hp [(1, .inr (0, [.ref 2, .ref 3, .ref 4, .int (skn s), .int (sdr s), .int (swa s), .int (sbu s), .int (sni s)])), (2, .inl (false, 6, sce s)), (3, .inl (false, 6, she s)), (4, .inl (false, 6, stu s))]) (fun v h' => v = some (.int (flOut s cov f 6)) ∧ h' = hov hp [(1, .inr (0, [.ref 2, .ref 3, .ref 4, .int (skn s), .int (sdr s), .int (swa s), .int (sbu s), .int (sni s)])), (2, .inl (false, 6, sce s)), (3, .inl (false, 6, she s)), (4, .inl (false, 6, stu s))]) := by
        refine down 6 ?_ ?_
        · refine E_iload dX0_flaringBy_20 rfl ?_
          refine E_bipush (v := 6) dX0_flaringBy_22 (by decide) ?_
          refine E_icmp_ge (tgt := 60) dX0_flaringBy_24 (by decide) (fun _ => ?_) (fun c => absurd (by decide) c)
          refine E_iload_n dX0_flaringBy_60 rfl ?_
          refine E_iload dX0_flaringBy_61 rfl ?_
          refine E_icmp_ne (tgt := 69) dX0_flaringBy_63 (by decide) (fun c63 => ?_) (fun c63 => ?_)
          · refine E_iinc (y := nI (i + 1)) (l2 := [.ref 1, .int (nI f), .int cov, .int (flIn s cov (flOut s cov f i) 6), .int (nI (i + 1)), .int (flOut s cov f i), .int (nI 6)]) dX0_flaringBy_69 rfl (nI_1 _) (by decide) rfl ?_
            refine E_goto (tgt := 7) dX0_flaringBy_72 (by decide) ?_
            exact ih _ _
          · refine E_goto (tgt := 75) dX0_flaringBy_66 (by decide) ?_
            refine E_iload_n dX0_flaringBy_75 rfl ?_
            exact E_iretf dX0_flaringBy_76 rfl rfl (by have e := flOut_fix (r := i) c63 (6 - i); rw [show i + (6 - i) = 6 by omega] at e; rw [e]; exact c63) rfl
        · intro j hj ihj
          refine E_iload dX0_flaringBy_20 rfl ?_
          refine E_bipush (v := 6) dX0_flaringBy_22 (by decide) ?_
          refine E_icmp_ge (tgt := 60) dX0_flaringBy_24 (by decide) (fun c => absurd c (cI_nle (n := 6) rfl hj (by decide))) (fun _ => ?_)
          refine E_aload_n dX0_flaringBy_27 rfl ?_
          refine E_iload dX0_flaringBy_28 rfl ?_
          refine E_iload_n dX0_flaringBy_30 rfl ?_
          refine E_callV (As := [.int (nI j), .int cov]) (l' := [.ref 1, .int (nI j), .int cov]) (st := []) dX0_flaringBy_31 kX0_50 iX0_canCatch vX0_canCatch (by decide) rfl rfl MX0_canCatch rfl rfl (Nat.le_of_ble_eq_true rfl) (FC.use (c_canCatch (d + 1) s j (by omega) cov) rfl (L2 := [(1, .inr (0, [.ref 2, .ref 3, .ref 4, .int (skn s), .int (sdr s), .int (swa s), .int (sbu s), .int (sni s)])), (2, .inl (false, 6, sce s)), (3, .inl (false, 6, she s)), (4, .inl (false, 6, stu s))]) rfl) (Nat.le_of_ble_eq_true rfl) (fun _ _ hq9 => E_fgo ?_ hq9)
          show E _ _ 34 [.ref 1, .int (nI f), .int cov, .int (flIn s cov (flOut s cov f i) j), .int (nI i), .int (flOut s cov f i), .int (nI j)] [.int (b2i (ccB s j cov))] (hov hp [(1, .inr (0, [.ref 2, .ref 3, .ref 4, .int (skn s), .int (sdr s), .int (swa s), .int (sbu s), .int (sni s)])), (2, .inl (false, 6, sce s)), (3, .inl (false, 6, she s)), (4, .inl (false, 6, stu s))]) _
          refine E_if_eq (tgt := 54) dX0_flaringBy_34 (by decide) (fun c34 => ?_) (fun c34 => ?_)
          · have c34 := b2i_e0 c34
            refine E_iinc (y := nI (j + 1)) (l2 := [.ref 1, .int (nI f), .int cov, .int (flIn s cov (flOut s cov f i) j), .int (nI i), .int (flOut s cov f i), .int (nI (j + 1))]) dX0_flaringBy_54 rfl (nI_1 _) (by decide) rfl ?_
            refine E_goto (tgt := 20) dX0_flaringBy_57 (by decide) ?_
            rw [show flIn s cov (flOut s cov f i) (j + 1) = flIn s cov (flOut s cov f i) j from by simp [flIn, orB, c34]] at ihj
            exact ihj
          · have c34 := b2i_n0 c34
            refine E_aload_n dX0_flaringBy_37 rfl ?_
            refine E_iload dX0_flaringBy_38 rfl ?_
            refine E_iload_n dX0_flaringBy_40 rfl ?_
            refine E_callV (As := [.int (nI j), .int (flIn s cov (flOut s cov f i) j)]) (l' := [.ref 1, .int (nI j), .int (flIn s cov (flOut s cov f i) j), .null, .null]) (st := []) dX0_flaringBy_41 kX0_53 iX0_countNear vX0_countNear (by decide) rfl rfl MX0_countNear rfl rfl (Nat.le_of_ble_eq_true rfl) (FC.use (c_countNear_now d (sce s) (she s) (stu s) (skn s) (sdr s) (swa s) (sbu s) (sni s) j (by omega) _) rfl (L2 := [(1, .inr (0, [.ref 2, .ref 3, .ref 4, .int (skn s), .int (sdr s), .int (swa s), .int (sbu s), .int (sni s)])), (2, .inl (false, 6, sce s)), (3, .inl (false, 6, she s)), (4, .inl (false, 6, stu s))]) rfl) (Nat.le_of_ble_eq_true rfl) (fun _ _ hq9 => E_fgo ?_ hq9)
            show E _ _ 44 [.ref 1, .int (nI f), .int cov, .int (flIn s cov (flOut s cov f i) j), .int (nI i), .int (flOut s cov f i), .int (nI j)] [.int (cntN (sce s) j (flIn s cov (flOut s cov f i) j) 6)] (hov hp [(1, .inr (0, [.ref 2, .ref 3, .ref 4, .int (skn s), .int (sdr s), .int (swa s), .int (sbu s), .int (sni s)])), (2, .inl (false, 6, sce s)), (3, .inl (false, 6, she s)), (4, .inl (false, 6, stu s))]) _
            refine E_if_le (tgt := 54) dX0_flaringBy_44 (by decide) (fun c44 => ?_) (fun c44 => ?_)
            · rw [← Int32.not_lt] at c44
              refine E_iinc (y := nI (j + 1)) (l2 := [.ref 1, .int (nI f), .int cov, .int (flIn s cov (flOut s cov f i) j), .int (nI i), .int (flOut s cov f i), .int (nI (j + 1))]) dX0_flaringBy_54 rfl (nI_1 _) (by decide) rfl ?_
              refine E_goto (tgt := 20) dX0_flaringBy_57 (by decide) ?_
              rw [show flIn s cov (flOut s cov f i) (j + 1) = flIn s cov (flOut s cov f i) j from by simp [flIn, orB, c34, c44]] at ihj
              exact ihj
            · rw [Int32.not_le] at c44
              refine E_iload_n dX0_flaringBy_47 rfl ?_
              refine E_iconst (v := 1) dX0_flaringBy_48 (by decide) ?_
              refine E_iload dX0_flaringBy_49 rfl ?_
              refine E_ishl dX0_flaringBy_51 ?_
              refine E_ior dX0_flaringBy_52 ?_
              refine E_istore_n (l2 := [.ref 1, .int (nI f), .int cov, .int ((flIn s cov (flOut s cov f i) j) ||| (1 <<< (nI j &&& 31))), .int (nI i), .int (flOut s cov f i), .int (nI j)]) dX0_flaringBy_53 rfl (by decide) rfl ?_
              refine E_iinc (y := nI (j + 1)) (l2 := [.ref 1, .int (nI f), .int cov, .int ((flIn s cov (flOut s cov f i) j) ||| (1 <<< (nI j &&& 31))), .int (nI i), .int (flOut s cov f i), .int (nI (j + 1))]) dX0_flaringBy_54 rfl (nI_1 _) (by decide) rfl ?_
              refine E_goto (tgt := 20) dX0_flaringBy_57 (by decide) ?_
              rw [show flIn s cov (flOut s cov f i) (j + 1) = (flIn s cov (flOut s cov f i) j) ||| (1 <<< (nI j &&& 31)) from by simp [flIn, orB, c34, c44]] at ihj
              exact ihj
      exact L20 0 (by decide)
  exact L7 0 (by decide) _ _

set_option maxHeartbeats 4000000 in
set_option maxRecDepth 20000 in
theorem c_put (d : Nat) (s : CS) (h : Nat) (hh : h < 6) (c t u : Int32) : FC YX0_put d [.ref 1, .int (nI h), .int c, .int t, .int u] [(1, .inr (0, [.ref 2, .ref 3, .ref 4, .int (skn s), .int (sdr s), .int (swa s), .int (sbu s), .int (sni s)])), (2, .inl (false, 6, sce s)), (3, .inl (false, 6, she s)), (4, .inl (false, 6, stu s))] (none) [(1, .inr (0, [.ref 2, .ref 3, .ref 4, .int (skn s), .int (offB (sdr s) h), .int (offB (swa s) h), .int (sbu s), .int (sni s)])), (2, .inl (false, 6, (upd (sce s) h c))), (3, .inl (false, 6, (upd (she s) h t))), (4, .inl (false, 6, (upd (stu s) h u)))] := by
  intro hp
  refine E_aload_n dX0_put_0 rfl ?_
  refine E_get dX0_put_1 fX0_9 (by decide) rfl rfl ?_
  refine E_iload_n dX0_put_4 rfl ?_
  refine E_iload_n dX0_put_5 rfl ?_
  refine E_iastN (j := h) (f2 := upd (sce s) h c) (L2 := [(1, .inr (0, [.ref 2, .ref 3, .ref 4, .int (skn s), .int (sdr s), .int (swa s), .int (sbu s), .int (sni s)])), (2, .inl (false, 6, (upd (sce s) h c))), (3, .inl (false, 6, she s)), (4, .inl (false, 6, stu s))]) dX0_put_6 (by decide) rfl (by omega) (by decide) rfl rfl ?_
  refine E_aload_n dX0_put_7 rfl ?_
  refine E_get dX0_put_8 fX0_15 (by decide) rfl rfl ?_
  refine E_iload_n dX0_put_11 rfl ?_
  refine E_iload_n dX0_put_12 rfl ?_
  refine E_iastN (j := h) (f2 := upd (she s) h t) (L2 := [(1, .inr (0, [.ref 2, .ref 3, .ref 4, .int (skn s), .int (sdr s), .int (swa s), .int (sbu s), .int (sni s)])), (2, .inl (false, 6, (upd (sce s) h c))), (3, .inl (false, 6, (upd (she s) h t))), (4, .inl (false, 6, stu s))]) dX0_put_13 (by decide) rfl (by omega) (by decide) rfl rfl ?_
  refine E_aload_n dX0_put_14 rfl ?_
  refine E_get dX0_put_15 fX0_18 (by decide) rfl rfl ?_
  refine E_iload_n dX0_put_18 rfl ?_
  refine E_iload dX0_put_19 rfl ?_
  refine E_iastN (j := h) (f2 := upd (stu s) h u) (L2 := [(1, .inr (0, [.ref 2, .ref 3, .ref 4, .int (skn s), .int (sdr s), .int (swa s), .int (sbu s), .int (sni s)])), (2, .inl (false, 6, (upd (sce s) h c))), (3, .inl (false, 6, (upd (she s) h t))), (4, .inl (false, 6, (upd (stu s) h u)))]) dX0_put_21 (by decide) rfl (by omega) (by decide) rfl rfl ?_
  refine E_aload_n dX0_put_22 rfl ?_
  refine E_dup dX0_put_23 rfl ?_
  refine E_get dX0_put_24 fX0_28 (by decide) rfl rfl ?_
  refine E_iconst (v := 1) dX0_put_27 (by decide) ?_
  refine E_iload_n dX0_put_28 rfl ?_
  refine E_ishl dX0_put_29 ?_
  refine E_iconst (v := (-1)) dX0_put_30 (by decide) ?_
  refine E_ixor dX0_put_31 ?_
  refine E_iand dX0_put_32 ?_
  refine E_puti (fs2 := [.ref 2, .ref 3, .ref 4, .int (skn s), .int ((sdr s) &&& ((1 <<< (nI h &&& 31)) ^^^ (-1))), .int (swa s), .int (sbu s), .int (sni s)]) (L2 := [(1, .inr (0, [.ref 2, .ref 3, .ref 4, .int (skn s), .int ((sdr s) &&& ((1 <<< (nI h &&& 31)) ^^^ (-1))), .int (swa s), .int (sbu s), .int (sni s)])), (2, .inl (false, 6, (upd (sce s) h c))), (3, .inl (false, 6, (upd (she s) h t))), (4, .inl (false, 6, (upd (stu s) h u)))]) dX0_put_33 fX0_28 fpX0_4 (by decide) rfl (Nat.le_of_ble_eq_true rfl) rfl rfl ?_
  refine E_aload_n dX0_put_36 rfl ?_
  refine E_dup dX0_put_37 rfl ?_
  refine E_get dX0_put_38 fX0_31 (by decide) rfl rfl ?_
  refine E_iconst (v := 1) dX0_put_41 (by decide) ?_
  refine E_iload_n dX0_put_42 rfl ?_
  refine E_ishl dX0_put_43 ?_
  refine E_iconst (v := (-1)) dX0_put_44 (by decide) ?_
  refine E_ixor dX0_put_45 ?_
  refine E_iand dX0_put_46 ?_
  refine E_puti (fs2 := [.ref 2, .ref 3, .ref 4, .int (skn s), .int ((sdr s) &&& ((1 <<< (nI h &&& 31)) ^^^ (-1))), .int ((swa s) &&& ((1 <<< (nI h &&& 31)) ^^^ (-1))), .int (sbu s), .int (sni s)]) (L2 := [(1, .inr (0, [.ref 2, .ref 3, .ref 4, .int (skn s), .int ((sdr s) &&& ((1 <<< (nI h &&& 31)) ^^^ (-1))), .int ((swa s) &&& ((1 <<< (nI h &&& 31)) ^^^ (-1))), .int (sbu s), .int (sni s)])), (2, .inl (false, 6, (upd (sce s) h c))), (3, .inl (false, 6, (upd (she s) h t))), (4, .inl (false, 6, (upd (stu s) h u)))]) dX0_put_47 fX0_31 fpX0_5 (by decide) rfl (Nat.le_of_ble_eq_true rfl) rfl rfl ?_
  exact E_vretf dX0_put_50 rfl rfl

set_option maxHeartbeats 4000000 in
set_option maxRecDepth 20000 in
theorem c_heatOfAll (d : Nat) (s : CS) : FC YX0_heatOfAll d [.ref 27, .null, .null] [(27, .inr (0, [.ref 28, .ref 29, .ref 30, .int (skn s), .int (sdr s), .int (swa s), .int (sbu s), .int (sni s)])), (28, .inl (false, 6, sce s)), (29, .inl (false, 6, she s)), (30, .inl (false, 6, stu s))] (some (.int (sumN (she s) 6))) [(27, .inr (0, [.ref 28, .ref 29, .ref 30, .int (skn s), .int (sdr s), .int (swa s), .int (sbu s), .int (sni s)])), (28, .inl (false, 6, sce s)), (29, .inl (false, 6, she s)), (30, .inl (false, 6, stu s))] := by
  intro hp
  refine E_iconst (v := 0) dX0_heatOfAll_0 (by decide) ?_
  refine E_istore_n (l2 := [.ref 27, .int 0, .null]) dX0_heatOfAll_1 rfl (by decide) rfl ?_
  refine E_iconst (v := 0) dX0_heatOfAll_2 (by decide) ?_
  refine E_istore_n (l2 := [.ref 27, .int 0, .int 0]) dX0_heatOfAll_3 rfl (by decide) rfl ?_
  have L4 : ∀ i, i ≤ 6 → E YX0_heatOfAll d 4 [.ref 27, .int (sumN (she s) i), .int (nI i)] [] (hov hp [(27, .inr (0, [.ref 28, .ref 29, .ref 30, .int (skn s), .int (sdr s), .int (swa s), .int (sbu s), .int (sni s)])), (28, .inl (false, 6, sce s)), (29, .inl (false, 6, she s)), (30, .inl (false, 6, stu s))]) (fun v h' => v = some (.int (sumN (she s) 6)) ∧ h' = hov hp [(27, .inr (0, [.ref 28, .ref 29, .ref 30, .int (skn s), .int (sdr s), .int (swa s), .int (sbu s), .int (sni s)])), (28, .inl (false, 6, sce s)), (29, .inl (false, 6, she s)), (30, .inl (false, 6, stu s))]) := by
    refine down 6 ?_ ?_
    · refine E_iload_n dX0_heatOfAll_4 rfl ?_
      refine E_bipush (v := 6) dX0_heatOfAll_5 (by decide) ?_
      refine E_icmp_ge (tgt := 25) dX0_heatOfAll_7 (by decide) (fun _ => ?_) (fun c => absurd (by decide) c)
      refine E_iload_n dX0_heatOfAll_25 rfl ?_
      exact E_iretf dX0_heatOfAll_26 rfl rfl rfl rfl
    · intro i hi ih
      refine E_iload_n dX0_heatOfAll_4 rfl ?_
      refine E_bipush (v := 6) dX0_heatOfAll_5 (by decide) ?_
      refine E_icmp_ge (tgt := 25) dX0_heatOfAll_7 (by decide) (fun c => absurd c (cI_nle (n := 6) rfl hi (by decide))) (fun _ => ?_)
      refine E_iload_n dX0_heatOfAll_10 rfl ?_
      refine E_aload_n dX0_heatOfAll_11 rfl ?_
      refine E_get dX0_heatOfAll_12 fX0_15 (by decide) rfl rfl ?_
      refine E_iload_n dX0_heatOfAll_15 rfl ?_
      refine E_ialdN (j := i) dX0_heatOfAll_16 (by decide) rfl (by omega) (by decide) ?_
      refine E_iadd dX0_heatOfAll_17 ?_
      refine E_istore_n (l2 := [.ref 27, .int ((sumN (she s) i) + ((she s) i)), .int (nI i)]) dX0_heatOfAll_18 rfl (by decide) rfl ?_
      refine E_iinc (y := nI (i + 1)) (l2 := [.ref 27, .int ((sumN (she s) i) + ((she s) i)), .int (nI (i + 1))]) dX0_heatOfAll_19 rfl (nI_1 _) (by decide) rfl ?_
      refine E_goto (tgt := 4) dX0_heatOfAll_22 (by decide) ?_
      exact ih
  exact L4 0 (by decide)

set_option maxHeartbeats 4000000 in
set_option maxRecDepth 20000 in
theorem c_reason_0 (d : Nat) (s : CS) (h : Nat) (hh : h < 6) (cell : Int32) : FC YX0_reasonAgainst (d + 1) [.ref 27, .int 0, .int (nI h), .int cell] [(27, .inr (0, [.ref 28, .ref 29, .ref 30, .int (skn s), .int (sdr s), .int (swa s), .int (sbu s), .int (sni s)])), (28, .inl (false, 6, sce s)), (29, .inl (false, 6, she s)), (30, .inl (false, 6, stu s))] (some (.int (rsn s 0 h cell))) [(27, .inr (0, [.ref 28, .ref 29, .ref 30, .int (skn s), .int (sdr s), .int (swa s), .int (sbu s), .int (sni s)])), (28, .inl (false, 6, sce s)), (29, .inl (false, 6, she s)), (30, .inl (false, 6, stu s))] := by
  intro hp
  refine E_iload_n dX0_reasonAgainst_0 rfl ?_
  refine E_iconst (v := 5) dX0_reasonAgainst_1 (by decide) ?_
  refine E_icmp_ne (tgt := 21) dX0_reasonAgainst_2 (by decide) (fun _ => ?_) (fun c => absurd c (by decide))
  refine E_iload_n dX0_reasonAgainst_21 rfl ?_
  refine E_if_ne (tgt := 52) dX0_reasonAgainst_22 (by decide) (fun c => absurd rfl c) (fun _ => ?_)
  refine E_aload_n dX0_reasonAgainst_25 rfl ?_
  refine E_iload_n dX0_reasonAgainst_26 rfl ?_
  refine E_iload_n dX0_reasonAgainst_27 rfl ?_
  refine E_callV (As := [.int cell, .int (nI h)]) (l' := [.ref 27, .int cell, .int (nI h), .null]) (st := []) dX0_reasonAgainst_28 kX0_61 iX0_isTakenByAnother vX0_isTakenByAnother (by decide) rfl rfl MX0_isTakenByAnother rfl rfl (Nat.le_of_ble_eq_true rfl) (FC.use (c_isTaken_tri d (sce s) (she s) (stu s) (skn s) (sdr s) (swa s) (sbu s) (sni s) cell h (by omega)) rfl (L2 := [(27, .inr (0, [.ref 28, .ref 29, .ref 30, .int (skn s), .int (sdr s), .int (swa s), .int (sbu s), .int (sni s)])), (28, .inl (false, 6, sce s)), (29, .inl (false, 6, she s)), (30, .inl (false, 6, stu s))]) rfl) (Nat.le_of_ble_eq_true rfl) (fun _ _ hq9 => E_fgo ?_ hq9)
  show E _ _ 31 [.ref 27, .int 0, .int (nI h), .int cell] [.int (b2i (anyB (takP (sce s) cell h) 6))] (hov hp [(27, .inr (0, [.ref 28, .ref 29, .ref 30, .int (skn s), .int (sdr s), .int (swa s), .int (sbu s), .int (sni s)])), (28, .inl (false, 6, sce s)), (29, .inl (false, 6, she s)), (30, .inl (false, 6, stu s))]) _
  refine E_if_eq (tgt := 38) dX0_reasonAgainst_31 (by decide) (fun c31 => ?_) (fun c31 => ?_)
  · have c31 := b2i_e0 c31
    refine E_aload_n dX0_reasonAgainst_38 rfl ?_
    refine E_iload_n dX0_reasonAgainst_39 rfl ?_
    refine E_callV (As := [.int (nI h)]) (l' := [.ref 27, .int (nI h)]) (st := []) dX0_reasonAgainst_40 kX0_57 iX0_isAlight vX0_isAlight (by decide) rfl rfl MX0_isAlight rfl rfl (Nat.le_of_ble_eq_true rfl) (FC.use (c_isAlight_tri d (sce s) (she s) (stu s) (skn s) (sdr s) (swa s) (sbu s) (sni s) h (by omega)) rfl (L2 := [(27, .inr (0, [.ref 28, .ref 29, .ref 30, .int (skn s), .int (sdr s), .int (swa s), .int (sbu s), .int (sni s)])), (28, .inl (false, 6, sce s)), (29, .inl (false, 6, she s)), (30, .inl (false, 6, stu s))]) rfl) (Nat.le_of_ble_eq_true rfl) (fun _ _ hq9 => E_fgo ?_ hq9)
    show E _ _ 43 [.ref 27, .int 0, .int (nI h), .int cell] [.int (b2i (decide (0 < she s h)))] (hov hp [(27, .inr (0, [.ref 28, .ref 29, .ref 30, .int (skn s), .int (sdr s), .int (swa s), .int (sbu s), .int (sni s)])), (28, .inl (false, 6, sce s)), (29, .inl (false, 6, she s)), (30, .inl (false, 6, stu s))]) _
    refine E_if_eq (tgt := 50) dX0_reasonAgainst_43 (by decide) (fun c43 => ?_) (fun c43 => ?_)
    · have c43 := b2i_e0 c43
      have c43 := of_decide_eq_false c43
      refine E_iconst (v := 0) dX0_reasonAgainst_50 (by decide) ?_
      exact E_iretf dX0_reasonAgainst_51 rfl rfl (by simp [rsn, c31, c43]) rfl
    · have c43 := b2i_n0 c43
      have c43 := of_decide_eq_true c43
      refine E_iconst (v := 3) dX0_reasonAgainst_46 (by decide) ?_
      refine E_goto (tgt := 51) dX0_reasonAgainst_47 (by decide) ?_
      exact E_iretf dX0_reasonAgainst_51 rfl rfl (by simp [rsn, c31, c43]) rfl
  · have c31 := b2i_n0 c31
    refine E_iconst (v := 2) dX0_reasonAgainst_34 (by decide) ?_
    refine E_goto (tgt := 51) dX0_reasonAgainst_35 (by decide) ?_
    exact E_iretf dX0_reasonAgainst_51 rfl rfl (by simp [rsn, c31]) rfl

set_option maxHeartbeats 4000000 in
set_option maxRecDepth 20000 in
theorem c_reason_1 (d : Nat) (s : CS) (h : Nat) (hh : h < 6) (cell : Int32) : FC YX0_reasonAgainst (d + 1) [.ref 27, .int 1, .int (nI h), .int cell] [(27, .inr (0, [.ref 28, .ref 29, .ref 30, .int (skn s), .int (sdr s), .int (swa s), .int (sbu s), .int (sni s)])), (28, .inl (false, 6, sce s)), (29, .inl (false, 6, she s)), (30, .inl (false, 6, stu s))] (some (.int (rsn s 1 h cell))) [(27, .inr (0, [.ref 28, .ref 29, .ref 30, .int (skn s), .int (sdr s), .int (swa s), .int (sbu s), .int (sni s)])), (28, .inl (false, 6, sce s)), (29, .inl (false, 6, she s)), (30, .inl (false, 6, stu s))] := by
  intro hp
  refine E_iload_n dX0_reasonAgainst_0 rfl ?_
  refine E_iconst (v := 5) dX0_reasonAgainst_1 (by decide) ?_
  refine E_icmp_ne (tgt := 21) dX0_reasonAgainst_2 (by decide) (fun _ => ?_) (fun c => absurd c (by decide))
  refine E_iload_n dX0_reasonAgainst_21 rfl ?_
  refine E_if_ne (tgt := 52) dX0_reasonAgainst_22 (by decide) (fun _ => ?_) (fun c => absurd c (by decide))
  refine E_aload_n dX0_reasonAgainst_52 rfl ?_
  refine E_get dX0_reasonAgainst_53 fX0_9 (by decide) rfl rfl ?_
  refine E_iload_n dX0_reasonAgainst_56 rfl ?_
  refine E_ialdN (j := h) dX0_reasonAgainst_57 (by decide) rfl (by omega) (by decide) ?_
  refine E_bipush (v := (-6)) dX0_reasonAgainst_58 (by decide) ?_
  refine E_icmp_ne (tgt := 65) dX0_reasonAgainst_60 (by decide) (fun c60 => ?_) (fun c60 => ?_)
  · refine E_iload_n dX0_reasonAgainst_65 rfl ?_
    refine E_tableIn (off := 26) (tgt := 92) dX0_reasonAgainst_66 (by decide) (by decide) (by decide) (by decide) ?_
    refine E_aload_n dX0_reasonAgainst_92 rfl ?_
    refine E_get dX0_reasonAgainst_93 fX0_18 (by decide) rfl rfl ?_
    refine E_iload_n dX0_reasonAgainst_96 rfl ?_
    refine E_ialdN (j := h) dX0_reasonAgainst_97 (by decide) rfl (by omega) (by decide) ?_
    refine E_bipush (v := 9) dX0_reasonAgainst_98 (by decide) ?_
    refine E_icmp_lt (tgt := 107) dX0_reasonAgainst_100 (by decide) (fun c100 => ?_) (fun c100 => ?_)
    · refine E_iconst (v := 0) dX0_reasonAgainst_107 (by decide) ?_
      exact E_iretf dX0_reasonAgainst_108 rfl rfl (by simp [rsn, c60, c100]) rfl
    · refine E_iconst (v := 5) dX0_reasonAgainst_103 (by decide) ?_
      refine E_goto (tgt := 108) dX0_reasonAgainst_104 (by decide) ?_
      exact E_iretf dX0_reasonAgainst_108 rfl rfl (by simp [rsn, c60, c100]) rfl
  · refine E_iconst (v := 1) dX0_reasonAgainst_63 (by decide) ?_
    exact E_iretf dX0_reasonAgainst_64 rfl rfl (by simp [rsn, c60]) rfl

set_option maxHeartbeats 4000000 in
set_option maxRecDepth 20000 in
theorem c_reason_2 (d : Nat) (s : CS) (h : Nat) (hh : h < 6) (cell : Int32) : FC YX0_reasonAgainst (d + 1) [.ref 27, .int 2, .int (nI h), .int cell] [(27, .inr (0, [.ref 28, .ref 29, .ref 30, .int (skn s), .int (sdr s), .int (swa s), .int (sbu s), .int (sni s)])), (28, .inl (false, 6, sce s)), (29, .inl (false, 6, she s)), (30, .inl (false, 6, stu s))] (some (.int (rsn s 2 h cell))) [(27, .inr (0, [.ref 28, .ref 29, .ref 30, .int (skn s), .int (sdr s), .int (swa s), .int (sbu s), .int (sni s)])), (28, .inl (false, 6, sce s)), (29, .inl (false, 6, she s)), (30, .inl (false, 6, stu s))] := by
  intro hp
  refine E_iload_n dX0_reasonAgainst_0 rfl ?_
  refine E_iconst (v := 5) dX0_reasonAgainst_1 (by decide) ?_
  refine E_icmp_ne (tgt := 21) dX0_reasonAgainst_2 (by decide) (fun _ => ?_) (fun c => absurd c (by decide))
  refine E_iload_n dX0_reasonAgainst_21 rfl ?_
  refine E_if_ne (tgt := 52) dX0_reasonAgainst_22 (by decide) (fun _ => ?_) (fun c => absurd c (by decide))
  refine E_aload_n dX0_reasonAgainst_52 rfl ?_
  refine E_get dX0_reasonAgainst_53 fX0_9 (by decide) rfl rfl ?_
  refine E_iload_n dX0_reasonAgainst_56 rfl ?_
  refine E_ialdN (j := h) dX0_reasonAgainst_57 (by decide) rfl (by omega) (by decide) ?_
  refine E_bipush (v := (-6)) dX0_reasonAgainst_58 (by decide) ?_
  refine E_icmp_ne (tgt := 65) dX0_reasonAgainst_60 (by decide) (fun c60 => ?_) (fun c60 => ?_)
  · refine E_iload_n dX0_reasonAgainst_65 rfl ?_
    refine E_tableIn (off := 43) (tgt := 109) dX0_reasonAgainst_66 (by decide) (by decide) (by decide) (by decide) ?_
    refine E_aload_n dX0_reasonAgainst_109 rfl ?_
    refine E_get dX0_reasonAgainst_110 fX0_18 (by decide) rfl rfl ?_
    refine E_iload_n dX0_reasonAgainst_113 rfl ?_
    refine E_ialdN (j := h) dX0_reasonAgainst_114 (by decide) rfl (by omega) (by decide) ?_
    refine E_if_gt (tgt := 122) dX0_reasonAgainst_115 (by decide) (fun c115 => ?_) (fun c115 => ?_)
    · refine E_iconst (v := 0) dX0_reasonAgainst_122 (by decide) ?_
      exact E_iretf dX0_reasonAgainst_123 rfl rfl (by simp [rsn, c60, c115]) rfl
    · refine E_iconst (v := 5) dX0_reasonAgainst_118 (by decide) ?_
      refine E_goto (tgt := 123) dX0_reasonAgainst_119 (by decide) ?_
      exact E_iretf dX0_reasonAgainst_123 rfl rfl (by simp [rsn, c60, c115]) rfl
  · refine E_iconst (v := 1) dX0_reasonAgainst_63 (by decide) ?_
    exact E_iretf dX0_reasonAgainst_64 rfl rfl (by simp [rsn, c60]) rfl

set_option maxHeartbeats 4000000 in
set_option maxRecDepth 20000 in
theorem c_reason_3 (d : Nat) (s : CS) (h : Nat) (hh : h < 6) (cell : Int32) : FC YX0_reasonAgainst (d + 1) [.ref 27, .int 3, .int (nI h), .int cell] [(27, .inr (0, [.ref 28, .ref 29, .ref 30, .int (skn s), .int (sdr s), .int (swa s), .int (sbu s), .int (sni s)])), (28, .inl (false, 6, sce s)), (29, .inl (false, 6, she s)), (30, .inl (false, 6, stu s))] (some (.int (rsn s 3 h cell))) [(27, .inr (0, [.ref 28, .ref 29, .ref 30, .int (skn s), .int (sdr s), .int (swa s), .int (sbu s), .int (sni s)])), (28, .inl (false, 6, sce s)), (29, .inl (false, 6, she s)), (30, .inl (false, 6, stu s))] := by
  intro hp
  refine E_iload_n dX0_reasonAgainst_0 rfl ?_
  refine E_iconst (v := 5) dX0_reasonAgainst_1 (by decide) ?_
  refine E_icmp_ne (tgt := 21) dX0_reasonAgainst_2 (by decide) (fun _ => ?_) (fun c => absurd c (by decide))
  refine E_iload_n dX0_reasonAgainst_21 rfl ?_
  refine E_if_ne (tgt := 52) dX0_reasonAgainst_22 (by decide) (fun _ => ?_) (fun c => absurd c (by decide))
  refine E_aload_n dX0_reasonAgainst_52 rfl ?_
  refine E_get dX0_reasonAgainst_53 fX0_9 (by decide) rfl rfl ?_
  refine E_iload_n dX0_reasonAgainst_56 rfl ?_
  refine E_ialdN (j := h) dX0_reasonAgainst_57 (by decide) rfl (by omega) (by decide) ?_
  refine E_bipush (v := (-6)) dX0_reasonAgainst_58 (by decide) ?_
  refine E_icmp_ne (tgt := 65) dX0_reasonAgainst_60 (by decide) (fun c60 => ?_) (fun c60 => ?_)
  · refine E_iload_n dX0_reasonAgainst_65 rfl ?_
    refine E_tableIn (off := 58) (tgt := 124) dX0_reasonAgainst_66 (by decide) (by decide) (by decide) (by decide) ?_
    refine E_aload_n dX0_reasonAgainst_124 rfl ?_
    refine E_iload_n dX0_reasonAgainst_125 rfl ?_
    refine E_callV (As := [.int (nI h)]) (l' := [.ref 27, .int (nI h)]) (st := []) dX0_reasonAgainst_126 kX0_57 iX0_isAlight vX0_isAlight (by decide) rfl rfl MX0_isAlight rfl rfl (Nat.le_of_ble_eq_true rfl) (FC.use (c_isAlight_tri d (sce s) (she s) (stu s) (skn s) (sdr s) (swa s) (sbu s) (sni s) h (by omega)) rfl (L2 := [(27, .inr (0, [.ref 28, .ref 29, .ref 30, .int (skn s), .int (sdr s), .int (swa s), .int (sbu s), .int (sni s)])), (28, .inl (false, 6, sce s)), (29, .inl (false, 6, she s)), (30, .inl (false, 6, stu s))]) rfl) (Nat.le_of_ble_eq_true rfl) (fun _ _ hq9 => E_fgo ?_ hq9)
    show E _ _ 129 [.ref 27, .int 3, .int (nI h), .int cell] [.int (b2i (decide (0 < she s h)))] (hov hp [(27, .inr (0, [.ref 28, .ref 29, .ref 30, .int (skn s), .int (sdr s), .int (swa s), .int (sbu s), .int (sni s)])), (28, .inl (false, 6, sce s)), (29, .inl (false, 6, she s)), (30, .inl (false, 6, stu s))]) _
    refine E_if_eq (tgt := 136) dX0_reasonAgainst_129 (by decide) (fun c129 => ?_) (fun c129 => ?_)
    · have c129 := b2i_e0 c129
      have c129 := of_decide_eq_false c129
      refine E_aload_n dX0_reasonAgainst_136 rfl ?_
      refine E_get dX0_reasonAgainst_137 fX0_28 (by decide) rfl rfl ?_
      refine E_iload_n dX0_reasonAgainst_140 rfl ?_
      refine E_callN (As := [.int (sdr s), .int (nI h)]) (l' := [.int (sdr s), .int (nI h)]) (st := []) dX0_reasonAgainst_141 nX0_43 sX6_hasBit MX6_hasBit rfl rfl (Nat.le_of_ble_eq_true rfl) (FC.use (c_hasBit d _ _) rfl (L2 := [(27, .inr (0, [.ref 28, .ref 29, .ref 30, .int (skn s), .int (sdr s), .int (swa s), .int (sbu s), .int (sni s)])), (28, .inl (false, 6, sce s)), (29, .inl (false, 6, she s)), (30, .inl (false, 6, stu s))]) rfl) (Nat.le_of_ble_eq_true rfl) (fun _ _ hq9 => E_fgo ?_ hq9)
      show E _ _ 144 [.ref 27, .int 3, .int (nI h), .int cell] [.int (b2i (hbt (sdr s) (nI h)))] (hov hp [(27, .inr (0, [.ref 28, .ref 29, .ref 30, .int (skn s), .int (sdr s), .int (swa s), .int (sbu s), .int (sni s)])), (28, .inl (false, 6, sce s)), (29, .inl (false, 6, she s)), (30, .inl (false, 6, stu s))]) _
      refine E_if_eq (tgt := 151) dX0_reasonAgainst_144 (by decide) (fun c144 => ?_) (fun c144 => ?_)
      · have c144 := b2i_e0 c144
        refine E_iconst (v := 0) dX0_reasonAgainst_151 (by decide) ?_
        exact E_iretf dX0_reasonAgainst_152 rfl rfl (by simp [rsn, c60, c129, c144]) rfl
      · have c144 := b2i_n0 c144
        refine E_iconst (v := 4) dX0_reasonAgainst_147 (by decide) ?_
        refine E_goto (tgt := 152) dX0_reasonAgainst_148 (by decide) ?_
        exact E_iretf dX0_reasonAgainst_152 rfl rfl (by simp [rsn, c60, c129, c144]) rfl
    · have c129 := b2i_n0 c129
      have c129 := of_decide_eq_true c129
      refine E_iconst (v := 3) dX0_reasonAgainst_132 (by decide) ?_
      refine E_goto (tgt := 152) dX0_reasonAgainst_133 (by decide) ?_
      exact E_iretf dX0_reasonAgainst_152 rfl rfl (by simp [rsn, c60, c129]) rfl
  · refine E_iconst (v := 1) dX0_reasonAgainst_63 (by decide) ?_
    exact E_iretf dX0_reasonAgainst_64 rfl rfl (by simp [rsn, c60]) rfl

set_option maxHeartbeats 4000000 in
set_option maxRecDepth 20000 in
theorem c_reason_4 (d : Nat) (s : CS) (h : Nat) (hh : h < 6) (cell : Int32) : FC YX0_reasonAgainst (d + 1) [.ref 27, .int 4, .int (nI h), .int cell] [(27, .inr (0, [.ref 28, .ref 29, .ref 30, .int (skn s), .int (sdr s), .int (swa s), .int (sbu s), .int (sni s)])), (28, .inl (false, 6, sce s)), (29, .inl (false, 6, she s)), (30, .inl (false, 6, stu s))] (some (.int (rsn s 4 h cell))) [(27, .inr (0, [.ref 28, .ref 29, .ref 30, .int (skn s), .int (sdr s), .int (swa s), .int (sbu s), .int (sni s)])), (28, .inl (false, 6, sce s)), (29, .inl (false, 6, she s)), (30, .inl (false, 6, stu s))] := by
  intro hp
  refine E_iload_n dX0_reasonAgainst_0 rfl ?_
  refine E_iconst (v := 5) dX0_reasonAgainst_1 (by decide) ?_
  refine E_icmp_ne (tgt := 21) dX0_reasonAgainst_2 (by decide) (fun _ => ?_) (fun c => absurd c (by decide))
  refine E_iload_n dX0_reasonAgainst_21 rfl ?_
  refine E_if_ne (tgt := 52) dX0_reasonAgainst_22 (by decide) (fun _ => ?_) (fun c => absurd c (by decide))
  refine E_aload_n dX0_reasonAgainst_52 rfl ?_
  refine E_get dX0_reasonAgainst_53 fX0_9 (by decide) rfl rfl ?_
  refine E_iload_n dX0_reasonAgainst_56 rfl ?_
  refine E_ialdN (j := h) dX0_reasonAgainst_57 (by decide) rfl (by omega) (by decide) ?_
  refine E_bipush (v := (-6)) dX0_reasonAgainst_58 (by decide) ?_
  refine E_icmp_ne (tgt := 65) dX0_reasonAgainst_60 (by decide) (fun c60 => ?_) (fun c60 => ?_)
  · refine E_iload_n dX0_reasonAgainst_65 rfl ?_
    refine E_tableOut (tgt := 153) dX0_reasonAgainst_66 (by decide) (by decide) ?_
    refine E_aload_n dX0_reasonAgainst_153 rfl ?_
    refine E_get dX0_reasonAgainst_154 fX0_31 (by decide) rfl rfl ?_
    refine E_iload_n dX0_reasonAgainst_157 rfl ?_
    refine E_callN (As := [.int (swa s), .int (nI h)]) (l' := [.int (swa s), .int (nI h)]) (st := []) dX0_reasonAgainst_158 nX0_43 sX6_hasBit MX6_hasBit rfl rfl (Nat.le_of_ble_eq_true rfl) (FC.use (c_hasBit d _ _) rfl (L2 := [(27, .inr (0, [.ref 28, .ref 29, .ref 30, .int (skn s), .int (sdr s), .int (swa s), .int (sbu s), .int (sni s)])), (28, .inl (false, 6, sce s)), (29, .inl (false, 6, she s)), (30, .inl (false, 6, stu s))]) rfl) (Nat.le_of_ble_eq_true rfl) (fun _ _ hq9 => E_fgo ?_ hq9)
    show E _ _ 161 [.ref 27, .int 4, .int (nI h), .int cell] [.int (b2i (hbt (swa s) (nI h)))] (hov hp [(27, .inr (0, [.ref 28, .ref 29, .ref 30, .int (skn s), .int (sdr s), .int (swa s), .int (sbu s), .int (sni s)])), (28, .inl (false, 6, sce s)), (29, .inl (false, 6, she s)), (30, .inl (false, 6, stu s))]) _
    refine E_if_ne (tgt := 178) dX0_reasonAgainst_161 (by decide) (fun c161 => ?_) (fun c161 => ?_)
    · have c161 := b2i_n0 c161
      refine E_iconst (v := 0) dX0_reasonAgainst_178 (by decide) ?_
      refine E_goto (tgt := 184) dX0_reasonAgainst_179 (by decide) ?_
      exact E_iretf dX0_reasonAgainst_184 rfl rfl (by simp [rsn, c60, c161]) rfl
    · have c161 := b2i_e0 c161
      refine E_aload_n dX0_reasonAgainst_164 rfl ?_
      refine E_get dX0_reasonAgainst_165 fX0_31 (by decide) rfl rfl ?_
      refine E_callS (As := [.int (swa s)]) (l' := [.int (swa s)]) (st := []) dX0_reasonAgainst_168 kX0_64 sJ6_bitCount_0f7a4 MJ6_bitCount_0f7a4 rfl rfl (Nat.le_of_ble_eq_true rfl) (FC.use (c_bitCount d _) rfl (L2 := [(27, .inr (0, [.ref 28, .ref 29, .ref 30, .int (skn s), .int (sdr s), .int (swa s), .int (sbu s), .int (sni s)])), (28, .inl (false, 6, sce s)), (29, .inl (false, 6, she s)), (30, .inl (false, 6, stu s))]) rfl) (Nat.le_of_ble_eq_true rfl) (fun _ _ hq9 => E_fgo ?_ hq9)
      show E _ _ 171 [.ref 27, .int 4, .int (nI h), .int cell] [.int (bcI (swa s))] (hov hp [(27, .inr (0, [.ref 28, .ref 29, .ref 30, .int (skn s), .int (sdr s), .int (swa s), .int (sbu s), .int (sni s)])), (28, .inl (false, 6, sce s)), (29, .inl (false, 6, she s)), (30, .inl (false, 6, stu s))]) _
      refine E_aload_n dX0_reasonAgainst_171 rfl ?_
      refine E_get dX0_reasonAgainst_172 fX0_21 (by decide) rfl rfl ?_
      refine E_icmp_ge (tgt := 182) dX0_reasonAgainst_175 (by decide) (fun c175 => ?_) (fun c175 => ?_)
      · rw [← Int32.not_lt] at c175
        refine E_bipush (v := 6) dX0_reasonAgainst_182 (by decide) ?_
        exact E_iretf dX0_reasonAgainst_184 rfl rfl (by simp [rsn, c60, c161, c175]) rfl
      · rw [Int32.not_le] at c175
        refine E_iconst (v := 0) dX0_reasonAgainst_178 (by decide) ?_
        refine E_goto (tgt := 184) dX0_reasonAgainst_179 (by decide) ?_
        exact E_iretf dX0_reasonAgainst_184 rfl rfl (by simp [rsn, c60, c161, c175]) rfl
  · refine E_iconst (v := 1) dX0_reasonAgainst_63 (by decide) ?_
    exact E_iretf dX0_reasonAgainst_64 rfl rfl (by simp [rsn, c60]) rfl

set_option maxHeartbeats 4000000 in
set_option maxRecDepth 20000 in
theorem c_reason_5 (d : Nat) (s : CS) (h : Nat) (hh : h < 6) (cell : Int32) : FC YX0_reasonAgainst (d + 1) [.ref 27, .int 5, .int (nI h), .int cell] [(27, .inr (0, [.ref 28, .ref 29, .ref 30, .int (skn s), .int (sdr s), .int (swa s), .int (sbu s), .int (sni s)])), (28, .inl (false, 6, sce s)), (29, .inl (false, 6, she s)), (30, .inl (false, 6, stu s))] (some (.int (rsn s 5 h cell))) [(27, .inr (0, [.ref 28, .ref 29, .ref 30, .int (skn s), .int (sdr s), .int (swa s), .int (sbu s), .int (sni s)])), (28, .inl (false, 6, sce s)), (29, .inl (false, 6, she s)), (30, .inl (false, 6, stu s))] := by
  intro hp
  refine E_iload_n dX0_reasonAgainst_0 rfl ?_
  refine E_iconst (v := 5) dX0_reasonAgainst_1 (by decide) ?_
  refine E_icmp_ne (tgt := 21) dX0_reasonAgainst_2 (by decide) (fun c => absurd rfl c) (fun _ => ?_)
  refine E_aload_n dX0_reasonAgainst_5 rfl ?_
  refine E_get dX0_reasonAgainst_6 fX0_34 (by decide) rfl rfl ?_
  refine E_bipush (v := 99) dX0_reasonAgainst_9 (by decide) ?_
  refine E_icmp_lt (tgt := 19) dX0_reasonAgainst_11 (by decide) (fun c11 => ?_) (fun c11 => ?_)
  · refine E_iconst (v := 0) dX0_reasonAgainst_19 (by decide) ?_
    exact E_iretf dX0_reasonAgainst_20 rfl rfl (by simp [rsn, c11]) rfl
  · refine E_bipush (v := 7) dX0_reasonAgainst_14 (by decide) ?_
    refine E_goto (tgt := 20) dX0_reasonAgainst_16 (by decide) ?_
    exact E_iretf dX0_reasonAgainst_20 rfl rfl (by simp [rsn, c11]) rfl

set_option maxHeartbeats 4000000 in
set_option maxRecDepth 20000 in
theorem c_smoulder (d : Nat) (s : CS) (h : Nat) (hh : h < 6) : FC YX0_smoulder (d + 1) [.ref 27, .int (nI h), .null, .null] [(27, .inr (0, [.ref 28, .ref 29, .ref 30, .int (skn s), .int (sdr s), .int (swa s), .int (sbu s), .int (sni s)])), (28, .inl (false, 6, sce s)), (29, .inl (false, 6, she s)), (30, .inl (false, 6, stu s))] (some (.int (b2i (smF s h)))) [(27, .inr (0, [.ref 28, .ref 29, .ref 30, .int (skn (smS s h)), .int (sdr (smS s h)), .int (swa (smS s h)), .int (sbu (smS s h)), .int (sni (smS s h))])), (28, .inl (false, 6, sce (smS s h))), (29, .inl (false, 6, she (smS s h))), (30, .inl (false, 6, stu (smS s h)))] := by
  intro hp
  refine E_aload_n dX0_smoulder_0 rfl ?_
  refine E_get dX0_smoulder_1 fX0_15 (by decide) rfl rfl ?_
  refine E_iload_n dX0_smoulder_4 rfl ?_
  refine E_ialdN (j := h) dX0_smoulder_5 (by decide) rfl (by omega) (by decide) ?_
  refine E_iconst (v := 5) dX0_smoulder_6 (by decide) ?_
  refine E_iadd dX0_smoulder_7 ?_
  refine E_aload_n dX0_smoulder_8 rfl ?_
  refine E_get dX0_smoulder_9 fX0_18 (by decide) rfl rfl ?_
  refine E_iload_n dX0_smoulder_12 rfl ?_
  refine E_ialdN (j := h) dX0_smoulder_13 (by decide) rfl (by omega) (by decide) ?_
  refine E_isub dX0_smoulder_14 ?_
  refine E_eqi (y := smX s h) rfl ?_
  refine E_istore_n (l2 := [.ref 27, .int (nI h), .int (smX s h), .null]) dX0_smoulder_15 rfl (by decide) rfl ?_
  refine E_iload_n dX0_smoulder_16 rfl ?_
  refine E_if_gt (tgt := 41) dX0_smoulder_17 (by decide) (fun c17 => ?_) (fun c17 => ?_)
  · rw [← Int32.not_le] at c17
    refine E_iload_n dX0_smoulder_41 rfl ?_
    refine E_bipush (v := 9) dX0_smoulder_42 (by decide) ?_
    refine E_icmp_gt (tgt := 56) dX0_smoulder_44 (by decide) (fun c44 => ?_) (fun c44 => ?_)
    · rw [← Int32.not_le] at c44
      refine E_aload_n dX0_smoulder_56 rfl ?_
      refine E_get dX0_smoulder_57 fX0_31 (by decide) rfl rfl ?_
      refine E_iload_n dX0_smoulder_60 rfl ?_
      refine E_callN (As := [.int (swa s), .int (nI h)]) (l' := [.int (swa s), .int (nI h)]) (st := []) dX0_smoulder_61 nX0_43 sX6_hasBit MX6_hasBit rfl rfl (Nat.le_of_ble_eq_true rfl) (FC.use (c_hasBit d _ _) rfl (L2 := [(27, .inr (0, [.ref 28, .ref 29, .ref 30, .int (skn s), .int (sdr s), .int (swa s), .int (sbu s), .int (sni s)])), (28, .inl (false, 6, sce s)), (29, .inl (false, 6, she s)), (30, .inl (false, 6, stu s))]) rfl) (Nat.le_of_ble_eq_true rfl) (fun _ _ hq9 => E_fgo ?_ hq9)
      show E _ _ 64 [.ref 27, .int (nI h), .int (smX s h), .null] [.int (b2i (hbt (swa s) (nI h)))] (hov hp [(27, .inr (0, [.ref 28, .ref 29, .ref 30, .int (skn s), .int (sdr s), .int (swa s), .int (sbu s), .int (sni s)])), (28, .inl (false, 6, sce s)), (29, .inl (false, 6, she s)), (30, .inl (false, 6, stu s))]) _
      refine E_istore_n (l2 := [.ref 27, .int (nI h), .int (smX s h), .int (b2i (hbt (swa s) (nI h)))]) dX0_smoulder_64 rfl (by decide) rfl ?_
      refine E_aload_n dX0_smoulder_65 rfl ?_
      refine E_get dX0_smoulder_66 fX0_15 (by decide) rfl rfl ?_
      refine E_iload_n dX0_smoulder_69 rfl ?_
      refine E_iload_n dX0_smoulder_70 rfl ?_
      refine E_if_eq (tgt := 78) dX0_smoulder_71 (by decide) (fun c71 => ?_) (fun c71 => ?_)
      · have c71 := b2i_e0 c71
        refine E_bipush (v := 9) dX0_smoulder_78 (by decide) ?_
        refine E_iastN (j := h) (f2 := upd (she s) h 9) (L2 := [(27, .inr (0, [.ref 28, .ref 29, .ref 30, .int (skn s), .int (sdr s), .int (swa s), .int (sbu s), .int (sni s)])), (28, .inl (false, 6, sce s)), (29, .inl (false, 6, (upd (she s) h 9))), (30, .inl (false, 6, stu s))]) dX0_smoulder_80 (by decide) rfl (by omega) (by decide) rfl rfl ?_
        refine E_iload_n dX0_smoulder_81 rfl ?_
        refine E_if_ne (tgt := 89) dX0_smoulder_82 (by decide) (fun c => (b2i_x0 c71 c).elim) (fun _ => ?_)
        refine E_iconst (v := 1) dX0_smoulder_85 (by decide) ?_
        refine E_goto (tgt := 90) dX0_smoulder_86 (by decide) ?_
        exact E_iretf dX0_smoulder_90 rfl (b2i_nar _) (by simp [smF, b2i, c17, c44, c71]) (by rw [show smS s h = mkS (sce s) (upd (she s) h 9) (stu s) (skn s) (sdr s) (swa s) (sbu s) (sni s) from by simp [smS, orB, c17, c44, c71]]; rfl)
      · have c71 := b2i_n0 c71
        refine E_iconst (v := 5) dX0_smoulder_74 (by decide) ?_
        refine E_goto (tgt := 80) dX0_smoulder_75 (by decide) ?_
        refine E_iastN (j := h) (f2 := upd (she s) h 5) (L2 := [(27, .inr (0, [.ref 28, .ref 29, .ref 30, .int (skn s), .int (sdr s), .int (swa s), .int (sbu s), .int (sni s)])), (28, .inl (false, 6, sce s)), (29, .inl (false, 6, (upd (she s) h 5))), (30, .inl (false, 6, stu s))]) dX0_smoulder_80 (by decide) rfl (by omega) (by decide) rfl rfl ?_
        refine E_iload_n dX0_smoulder_81 rfl ?_
        refine E_if_ne (tgt := 89) dX0_smoulder_82 (by decide) (fun _ => ?_) (fun c => (b2i_x1 c71 c).elim)
        refine E_iconst (v := 0) dX0_smoulder_89 (by decide) ?_
        exact E_iretf dX0_smoulder_90 rfl (b2i_nar _) (by simp [smF, b2i, c17, c44, c71]) (by rw [show smS s h = mkS (sce s) (upd (she s) h 5) (stu s) (skn s) (sdr s) (swa s) (sbu s) (sni s) from by simp [smS, orB, c17, c44, c71]]; rfl)
    · rw [Int32.not_lt] at c44
      refine E_aload_n dX0_smoulder_47 rfl ?_
      refine E_get dX0_smoulder_48 fX0_15 (by decide) rfl rfl ?_
      refine E_iload_n dX0_smoulder_51 rfl ?_
      refine E_iload_n dX0_smoulder_52 rfl ?_
      refine E_iastN (j := h) (f2 := upd (she s) h (smX s h)) (L2 := [(27, .inr (0, [.ref 28, .ref 29, .ref 30, .int (skn s), .int (sdr s), .int (swa s), .int (sbu s), .int (sni s)])), (28, .inl (false, 6, sce s)), (29, .inl (false, 6, (upd (she s) h (smX s h)))), (30, .inl (false, 6, stu s))]) dX0_smoulder_53 (by decide) rfl (by omega) (by decide) rfl rfl ?_
      refine E_iconst (v := 0) dX0_smoulder_54 (by decide) ?_
      exact E_iretf dX0_smoulder_55 rfl (b2i_nar _) (by simp [smF, b2i, c17, c44]) (by rw [show smS s h = mkS (sce s) (upd (she s) h (smX s h)) (stu s) (skn s) (sdr s) (swa s) (sbu s) (sni s) from by simp [smS, orB, c17, c44]]; rfl)
  · rw [Int32.not_lt] at c17
    refine E_aload_n dX0_smoulder_20 rfl ?_
    refine E_get dX0_smoulder_21 fX0_15 (by decide) rfl rfl ?_
    refine E_iload_n dX0_smoulder_24 rfl ?_
    refine E_iconst (v := 0) dX0_smoulder_25 (by decide) ?_
    refine E_iastN (j := h) (f2 := upd (she s) h 0) (L2 := [(27, .inr (0, [.ref 28, .ref 29, .ref 30, .int (skn s), .int (sdr s), .int (swa s), .int (sbu s), .int (sni s)])), (28, .inl (false, 6, sce s)), (29, .inl (false, 6, (upd (she s) h 0))), (30, .inl (false, 6, stu s))]) dX0_smoulder_26 (by decide) rfl (by omega) (by decide) rfl rfl ?_
    refine E_aload_n dX0_smoulder_27 rfl ?_
    refine E_dup dX0_smoulder_28 rfl ?_
    refine E_get dX0_smoulder_29 fX0_28 (by decide) rfl rfl ?_
    refine E_iconst (v := 1) dX0_smoulder_32 (by decide) ?_
    refine E_iload_n dX0_smoulder_33 rfl ?_
    refine E_ishl dX0_smoulder_34 ?_
    refine E_ior dX0_smoulder_35 ?_
    refine E_puti (fs2 := [.ref 28, .ref 29, .ref 30, .int (skn s), .int ((sdr s) ||| (1 <<< (nI h &&& 31))), .int (swa s), .int (sbu s), .int (sni s)]) (L2 := [(27, .inr (0, [.ref 28, .ref 29, .ref 30, .int (skn s), .int ((sdr s) ||| (1 <<< (nI h &&& 31))), .int (swa s), .int (sbu s), .int (sni s)])), (28, .inl (false, 6, sce s)), (29, .inl (false, 6, (upd (she s) h 0))), (30, .inl (false, 6, stu s))]) dX0_smoulder_36 fX0_28 fpX0_4 (by decide) rfl (Nat.le_of_ble_eq_true rfl) rfl rfl ?_
    refine E_iconst (v := 0) dX0_smoulder_39 (by decide) ?_
    exact E_iretf dX0_smoulder_40 rfl (b2i_nar _) (by simp [smF, b2i, c17]) (by rw [show smS s h = mkS (sce s) (upd (she s) h 0) (stu s) (skn s) ((sdr s) ||| (1 <<< (nI h &&& 31))) (swa s) (sbu s) (sni s) from by simp [smS, orB, c17]]; rfl)

set_option maxHeartbeats 4000000 in
set_option maxRecDepth 20000 in
theorem c_passNight (d : Nat) (s : CS) : FC YX0_passNight (d + 3) [.ref 27, .null, .null] [(27, .inr (0, [.ref 28, .ref 29, .ref 30, .int (skn s), .int (sdr s), .int (swa s), .int (sbu s), .int (sni s)])), (28, .inl (false, 6, sce s)), (29, .inl (false, 6, she s)), (30, .inl (false, 6, stu s))] (some (.int (ngF s))) [(27, .inr (0, [.ref 28, .ref 29, .ref 30, .int (skn (ngS s)), .int (sdr (ngS s)), .int (swa (ngS s)), .int (sbu (ngS s)), .int (sni (ngS s))])), (28, .inl (false, 6, sce (ngS s))), (29, .inl (false, 6, she (ngS s))), (30, .inl (false, 6, stu (ngS s)))] := by
  intro hp
  refine E_aload_n dX0_passNight_0 rfl ?_
  refine E_dup dX0_passNight_1 rfl ?_
  refine E_get dX0_passNight_2 fX0_34 (by decide) rfl rfl ?_
  refine E_iconst (v := 1) dX0_passNight_5 (by decide) ?_
  refine E_iadd dX0_passNight_6 ?_
  refine E_puti (fs2 := [.ref 28, .ref 29, .ref 30, .int (skn s), .int (sdr s), .int (swa s), .int (sbu s), .int ((sni s) + 1)]) (L2 := [(27, .inr (0, [.ref 28, .ref 29, .ref 30, .int (skn s), .int (sdr s), .int (swa s), .int (sbu s), .int ((sni s) + 1)])), (28, .inl (false, 6, sce s)), (29, .inl (false, 6, she s)), (30, .inl (false, 6, stu s))]) dX0_passNight_7 fX0_34 fpX0_7 (by decide) rfl (Nat.le_of_ble_eq_true rfl) rfl rfl ?_
  refine E_iconst (v := 0) dX0_passNight_10 (by decide) ?_
  refine E_istore_n (l2 := [.ref 27, .int 0, .null]) dX0_passNight_11 rfl (by decide) rfl ?_
  refine E_iconst (v := 0) dX0_passNight_12 (by decide) ?_
  refine E_istore_n (l2 := [.ref 27, .int 0, .int 0]) dX0_passNight_13 rfl (by decide) rfl ?_
  have L14 : ∀ i, i ≤ 6 → E YX0_passNight (d + 3) 14 [.ref 27, .int ((n1 s i).2), .int (nI i)] [] (hov hp [(27, .inr (0, [.ref 28, .ref 29, .ref 30, .int (skn ((n1 s i).1)), .int (sdr ((n1 s i).1)), .int (swa ((n1 s i).1)), .int (sbu ((n1 s i).1)), .int (sni ((n1 s i).1))])), (28, .inl (false, 6, sce ((n1 s i).1))), (29, .inl (false, 6, she ((n1 s i).1))), (30, .inl (false, 6, stu ((n1 s i).1)))]) (fun v h' => v = some (.int (ngF s)) ∧ h' = hov hp [(27, .inr (0, [.ref 28, .ref 29, .ref 30, .int (skn (ngS s)), .int (sdr (ngS s)), .int (swa (ngS s)), .int (sbu (ngS s)), .int (sni (ngS s))])), (28, .inl (false, 6, sce (ngS s))), (29, .inl (false, 6, she (ngS s))), (30, .inl (false, 6, stu (ngS s)))]) := by
    refine down 6 ?_ ?_
    · refine E_iload_n dX0_passNight_14 rfl ?_
      refine E_bipush (v := 6) dX0_passNight_15 (by decide) ?_
      refine E_icmp_ge (tgt := 48) dX0_passNight_17 (by decide) (fun _ => ?_) (fun c => absurd (by decide) c)
      refine E_aload_n dX0_passNight_48 rfl ?_
      refine E_dup dX0_passNight_49 rfl ?_
      refine E_get dX0_passNight_50 fX0_25 (by decide) rfl rfl ?_
      refine E_iload_n dX0_passNight_53 rfl ?_
      refine E_ior dX0_passNight_54 ?_
      refine E_puti (fs2 := [.ref 28, .ref 29, .ref 30, .int ((skn ((n1 s 6).1)) ||| ((n1 s 6).2)), .int (sdr ((n1 s 6).1)), .int (swa ((n1 s 6).1)), .int (sbu ((n1 s 6).1)), .int (sni ((n1 s 6).1))]) (L2 := [(27, .inr (0, [.ref 28, .ref 29, .ref 30, .int ((skn ((n1 s 6).1)) ||| ((n1 s 6).2)), .int (sdr ((n1 s 6).1)), .int (swa ((n1 s 6).1)), .int (sbu ((n1 s 6).1)), .int (sni ((n1 s 6).1))])), (28, .inl (false, 6, sce ((n1 s 6).1))), (29, .inl (false, 6, she ((n1 s 6).1))), (30, .inl (false, 6, stu ((n1 s 6).1)))]) dX0_passNight_55 fX0_25 fpX0_3 (by decide) rfl (Nat.le_of_ble_eq_true rfl) rfl rfl ?_
      refine E_iconst (v := 0) dX0_passNight_58 (by decide) ?_
      refine E_istore_n (l2 := [.ref 27, .int ((n1 s 6).2), .int 0]) dX0_passNight_59 rfl (by decide) rfl ?_
      generalize hz : n1 s 6 = z
      have L60 : ∀ i, i ≤ 6 → E YX0_passNight (d + 3) 60 [.ref 27, .int z.2, .int (nI i)] [] (hov hp [(27, .inr (0, [.ref 28, .ref 29, .ref 30, .int (skn (n2 (setKn z.1 (skn z.1 ||| z.2)) z.2 i)), .int (sdr (n2 (setKn z.1 (skn z.1 ||| z.2)) z.2 i)), .int (swa (n2 (setKn z.1 (skn z.1 ||| z.2)) z.2 i)), .int (sbu (n2 (setKn z.1 (skn z.1 ||| z.2)) z.2 i)), .int (sni (n2 (setKn z.1 (skn z.1 ||| z.2)) z.2 i))])), (28, .inl (false, 6, sce (n2 (setKn z.1 (skn z.1 ||| z.2)) z.2 i))), (29, .inl (false, 6, she (n2 (setKn z.1 (skn z.1 ||| z.2)) z.2 i))), (30, .inl (false, 6, stu (n2 (setKn z.1 (skn z.1 ||| z.2)) z.2 i)))]) (fun v h' => v = some (.int (ngF s)) ∧ h' = hov hp [(27, .inr (0, [.ref 28, .ref 29, .ref 30, .int (skn (ngS s)), .int (sdr (ngS s)), .int (swa (ngS s)), .int (sbu (ngS s)), .int (sni (ngS s))])), (28, .inl (false, 6, sce (ngS s))), (29, .inl (false, 6, she (ngS s))), (30, .inl (false, 6, stu (ngS s)))]) := by
        refine down 6 ?_ ?_
        · refine E_iload_n dX0_passNight_60 rfl ?_
          refine E_bipush (v := 6) dX0_passNight_61 (by decide) ?_
          refine E_icmp_ge (tgt := 103) dX0_passNight_63 (by decide) (fun _ => ?_) (fun c => absurd (by decide) c)
          refine E_iload_n dX0_passNight_103 rfl ?_
          exact E_iretf dX0_passNight_104 rfl rfl (by rw [← hz]; rfl) (by rw [show ngS s = n2 (setKn z.1 (skn z.1 ||| z.2)) z.2 6 from by rw [← hz]; rfl])
        · intro i hi ih
          refine E_iload_n dX0_passNight_60 rfl ?_
          refine E_bipush (v := 6) dX0_passNight_61 (by decide) ?_
          refine E_icmp_ge (tgt := 103) dX0_passNight_63 (by decide) (fun c => absurd c (cI_nle (n := 6) rfl hi (by decide))) (fun _ => ?_)
          refine E_aload_n dX0_passNight_66 rfl ?_
          refine E_iload_n dX0_passNight_67 rfl ?_
          refine E_callV (As := [.int (nI i)]) (l' := [.ref 27, .int (nI i)]) (st := []) dX0_passNight_68 kX0_57 iX0_isAlight vX0_isAlight (by decide) rfl rfl MX0_isAlight rfl rfl (Nat.le_of_ble_eq_true rfl) (FC.use (c_isAlight_tri (d + 2) (sce (n2 (setKn z.1 (skn z.1 ||| z.2)) z.2 i)) (she (n2 (setKn z.1 (skn z.1 ||| z.2)) z.2 i)) (stu (n2 (setKn z.1 (skn z.1 ||| z.2)) z.2 i)) (skn (n2 (setKn z.1 (skn z.1 ||| z.2)) z.2 i)) (sdr (n2 (setKn z.1 (skn z.1 ||| z.2)) z.2 i)) (swa (n2 (setKn z.1 (skn z.1 ||| z.2)) z.2 i)) (sbu (n2 (setKn z.1 (skn z.1 ||| z.2)) z.2 i)) (sni (n2 (setKn z.1 (skn z.1 ||| z.2)) z.2 i)) i (by omega)) rfl (L2 := [(27, .inr (0, [.ref 28, .ref 29, .ref 30, .int (skn (n2 (setKn z.1 (skn z.1 ||| z.2)) z.2 i)), .int (sdr (n2 (setKn z.1 (skn z.1 ||| z.2)) z.2 i)), .int (swa (n2 (setKn z.1 (skn z.1 ||| z.2)) z.2 i)), .int (sbu (n2 (setKn z.1 (skn z.1 ||| z.2)) z.2 i)), .int (sni (n2 (setKn z.1 (skn z.1 ||| z.2)) z.2 i))])), (28, .inl (false, 6, sce (n2 (setKn z.1 (skn z.1 ||| z.2)) z.2 i))), (29, .inl (false, 6, she (n2 (setKn z.1 (skn z.1 ||| z.2)) z.2 i))), (30, .inl (false, 6, stu (n2 (setKn z.1 (skn z.1 ||| z.2)) z.2 i)))]) rfl) (Nat.le_of_ble_eq_true rfl) (fun _ _ hq9 => E_fgo ?_ hq9)
          show E _ _ 71 [.ref 27, .int z.2, .int (nI i)] [.int (b2i (decide (0 < she (n2 (setKn z.1 (skn z.1 ||| z.2)) z.2 i) i)))] (hov hp [(27, .inr (0, [.ref 28, .ref 29, .ref 30, .int (skn (n2 (setKn z.1 (skn z.1 ||| z.2)) z.2 i)), .int (sdr (n2 (setKn z.1 (skn z.1 ||| z.2)) z.2 i)), .int (swa (n2 (setKn z.1 (skn z.1 ||| z.2)) z.2 i)), .int (sbu (n2 (setKn z.1 (skn z.1 ||| z.2)) z.2 i)), .int (sni (n2 (setKn z.1 (skn z.1 ||| z.2)) z.2 i))])), (28, .inl (false, 6, sce (n2 (setKn z.1 (skn z.1 ||| z.2)) z.2 i))), (29, .inl (false, 6, she (n2 (setKn z.1 (skn z.1 ||| z.2)) z.2 i))), (30, .inl (false, 6, stu (n2 (setKn z.1 (skn z.1 ||| z.2)) z.2 i)))]) _
          refine E_if_eq (tgt := 97) dX0_passNight_71 (by decide) (fun c71 => ?_) (fun c71 => ?_)
          · have c71 := b2i_e0 c71
            refine E_iinc (y := nI (i + 1)) (l2 := [.ref 27, .int z.2, .int (nI (i + 1))]) dX0_passNight_97 rfl (nI_1 _) (by decide) rfl ?_
            refine E_goto (tgt := 60) dX0_passNight_100 (by decide) ?_
            rw [show n2 (setKn z.1 (skn z.1 ||| z.2)) z.2 (i + 1) = n2 (setKn z.1 (skn z.1 ||| z.2)) z.2 i from by simp [n2, c71]] at ih
            exact ih
          · have c71 := b2i_n0 c71
            refine E_aload_n dX0_passNight_74 rfl ?_
            refine E_get dX0_passNight_75 fX0_18 (by decide) rfl rfl ?_
            refine E_iload_n dX0_passNight_78 rfl ?_
            refine E_iconst (v := 0) dX0_passNight_79 (by decide) ?_
            refine E_aload_n dX0_passNight_80 rfl ?_
            refine E_get dX0_passNight_81 fX0_18 (by decide) rfl rfl ?_
            refine E_iload_n dX0_passNight_84 rfl ?_
            refine E_ialdN (j := i) dX0_passNight_85 (by decide) rfl (by omega) (by decide) ?_
            refine E_aload_n dX0_passNight_86 rfl ?_
            refine E_iload_n dX0_passNight_87 rfl ?_
            refine E_iload_n dX0_passNight_88 rfl ?_
            refine E_callV (As := [.int (nI i), .int z.2]) (l' := [.ref 27, .int (nI i), .int z.2, .null, .null]) (st := [.int ((stu (n2 (setKn z.1 (skn z.1 ||| z.2)) z.2 i)) i), .int 0, .int (nI i), .ref 30]) dX0_passNight_89 kX0_53 iX0_countNear vX0_countNear (by decide) rfl rfl MX0_countNear rfl rfl (Nat.le_of_ble_eq_true rfl) (FC.use (c_countNear_tri d (sce (n2 (setKn z.1 (skn z.1 ||| z.2)) z.2 i)) (she (n2 (setKn z.1 (skn z.1 ||| z.2)) z.2 i)) (stu (n2 (setKn z.1 (skn z.1 ||| z.2)) z.2 i)) (skn (n2 (setKn z.1 (skn z.1 ||| z.2)) z.2 i)) (sdr (n2 (setKn z.1 (skn z.1 ||| z.2)) z.2 i)) (swa (n2 (setKn z.1 (skn z.1 ||| z.2)) z.2 i)) (sbu (n2 (setKn z.1 (skn z.1 ||| z.2)) z.2 i)) (sni (n2 (setKn z.1 (skn z.1 ||| z.2)) z.2 i)) i (by omega) _) rfl (L2 := [(27, .inr (0, [.ref 28, .ref 29, .ref 30, .int (skn (n2 (setKn z.1 (skn z.1 ||| z.2)) z.2 i)), .int (sdr (n2 (setKn z.1 (skn z.1 ||| z.2)) z.2 i)), .int (swa (n2 (setKn z.1 (skn z.1 ||| z.2)) z.2 i)), .int (sbu (n2 (setKn z.1 (skn z.1 ||| z.2)) z.2 i)), .int (sni (n2 (setKn z.1 (skn z.1 ||| z.2)) z.2 i))])), (28, .inl (false, 6, sce (n2 (setKn z.1 (skn z.1 ||| z.2)) z.2 i))), (29, .inl (false, 6, she (n2 (setKn z.1 (skn z.1 ||| z.2)) z.2 i))), (30, .inl (false, 6, stu (n2 (setKn z.1 (skn z.1 ||| z.2)) z.2 i)))]) rfl) (Nat.le_of_ble_eq_true rfl) (fun _ _ hq9 => E_fgo ?_ hq9)
            show E _ _ 92 [.ref 27, .int z.2, .int (nI i)] [.int (cntN (sce (n2 (setKn z.1 (skn z.1 ||| z.2)) z.2 i)) i z.2 6), .int ((stu (n2 (setKn z.1 (skn z.1 ||| z.2)) z.2 i)) i), .int 0, .int (nI i), .ref 30] (hov hp [(27, .inr (0, [.ref 28, .ref 29, .ref 30, .int (skn (n2 (setKn z.1 (skn z.1 ||| z.2)) z.2 i)), .int (sdr (n2 (setKn z.1 (skn z.1 ||| z.2)) z.2 i)), .int (swa (n2 (setKn z.1 (skn z.1 ||| z.2)) z.2 i)), .int (sbu (n2 (setKn z.1 (skn z.1 ||| z.2)) z.2 i)), .int (sni (n2 (setKn z.1 (skn z.1 ||| z.2)) z.2 i))])), (28, .inl (false, 6, sce (n2 (setKn z.1 (skn z.1 ||| z.2)) z.2 i))), (29, .inl (false, 6, she (n2 (setKn z.1 (skn z.1 ||| z.2)) z.2 i))), (30, .inl (false, 6, stu (n2 (setKn z.1 (skn z.1 ||| z.2)) z.2 i)))]) _
            refine E_isub dX0_passNight_92 ?_
            refine E_Mmax dX0_passNight_93 kX0_76 (Nat.le_of_ble_eq_true rfl) ?_
            refine E_iastN (j := i) (f2 := upd (stu (n2 (setKn z.1 (skn z.1 ||| z.2)) z.2 i)) i (maxI 0 (((stu (n2 (setKn z.1 (skn z.1 ||| z.2)) z.2 i)) i) - (cntN (sce (n2 (setKn z.1 (skn z.1 ||| z.2)) z.2 i)) i z.2 6)))) (L2 := [(27, .inr (0, [.ref 28, .ref 29, .ref 30, .int (skn (n2 (setKn z.1 (skn z.1 ||| z.2)) z.2 i)), .int (sdr (n2 (setKn z.1 (skn z.1 ||| z.2)) z.2 i)), .int (swa (n2 (setKn z.1 (skn z.1 ||| z.2)) z.2 i)), .int (sbu (n2 (setKn z.1 (skn z.1 ||| z.2)) z.2 i)), .int (sni (n2 (setKn z.1 (skn z.1 ||| z.2)) z.2 i))])), (28, .inl (false, 6, sce (n2 (setKn z.1 (skn z.1 ||| z.2)) z.2 i))), (29, .inl (false, 6, she (n2 (setKn z.1 (skn z.1 ||| z.2)) z.2 i))), (30, .inl (false, 6, (upd (stu (n2 (setKn z.1 (skn z.1 ||| z.2)) z.2 i)) i (maxI 0 (((stu (n2 (setKn z.1 (skn z.1 ||| z.2)) z.2 i)) i) - (cntN (sce (n2 (setKn z.1 (skn z.1 ||| z.2)) z.2 i)) i z.2 6))))))]) dX0_passNight_96 (by decide) rfl (by omega) (by decide) rfl rfl ?_
            refine E_iinc (y := nI (i + 1)) (l2 := [.ref 27, .int z.2, .int (nI (i + 1))]) dX0_passNight_97 rfl (nI_1 _) (by decide) rfl ?_
            refine E_goto (tgt := 60) dX0_passNight_100 (by decide) ?_
            rw [show n2 (setKn z.1 (skn z.1 ||| z.2)) z.2 (i + 1) = setTu (n2 (setKn z.1 (skn z.1 ||| z.2)) z.2 i) (upd (stu (n2 (setKn z.1 (skn z.1 ||| z.2)) z.2 i)) i (maxI 0 (((stu (n2 (setKn z.1 (skn z.1 ||| z.2)) z.2 i)) i) - (cntN (sce (n2 (setKn z.1 (skn z.1 ||| z.2)) z.2 i)) i z.2 6)))) from by simp [n2, c71]] at ih
            exact ih
      exact L60 0 (by decide)
    · intro i hi ih
      refine E_iload_n dX0_passNight_14 rfl ?_
      refine E_bipush (v := 6) dX0_passNight_15 (by decide) ?_
      refine E_icmp_ge (tgt := 48) dX0_passNight_17 (by decide) (fun c => absurd c (cI_nle (n := 6) rfl hi (by decide))) (fun _ => ?_)
      refine E_aload_n dX0_passNight_20 rfl ?_
      refine E_iload_n dX0_passNight_21 rfl ?_
      refine E_callV (As := [.int (nI i)]) (l' := [.ref 27, .int (nI i)]) (st := []) dX0_passNight_22 kX0_57 iX0_isAlight vX0_isAlight (by decide) rfl rfl MX0_isAlight rfl rfl (Nat.le_of_ble_eq_true rfl) (FC.use (c_isAlight_tri (d + 2) (sce ((n1 s i).1)) (she ((n1 s i).1)) (stu ((n1 s i).1)) (skn ((n1 s i).1)) (sdr ((n1 s i).1)) (swa ((n1 s i).1)) (sbu ((n1 s i).1)) (sni ((n1 s i).1)) i (by omega)) rfl (L2 := [(27, .inr (0, [.ref 28, .ref 29, .ref 30, .int (skn ((n1 s i).1)), .int (sdr ((n1 s i).1)), .int (swa ((n1 s i).1)), .int (sbu ((n1 s i).1)), .int (sni ((n1 s i).1))])), (28, .inl (false, 6, sce ((n1 s i).1))), (29, .inl (false, 6, she ((n1 s i).1))), (30, .inl (false, 6, stu ((n1 s i).1)))]) rfl) (Nat.le_of_ble_eq_true rfl) (fun _ _ hq9 => E_fgo ?_ hq9)
      show E _ _ 25 [.ref 27, .int ((n1 s i).2), .int (nI i)] [.int (b2i (decide (0 < she ((n1 s i).1) i)))] (hov hp [(27, .inr (0, [.ref 28, .ref 29, .ref 30, .int (skn ((n1 s i).1)), .int (sdr ((n1 s i).1)), .int (swa ((n1 s i).1)), .int (sbu ((n1 s i).1)), .int (sni ((n1 s i).1))])), (28, .inl (false, 6, sce ((n1 s i).1))), (29, .inl (false, 6, she ((n1 s i).1))), (30, .inl (false, 6, stu ((n1 s i).1)))]) _
      refine E_if_eq (tgt := 42) dX0_passNight_25 (by decide) (fun c25 => ?_) (fun c25 => ?_)
      · have c25 := b2i_e0 c25
        refine E_iinc (y := nI (i + 1)) (l2 := [.ref 27, .int ((n1 s i).2), .int (nI (i + 1))]) dX0_passNight_42 rfl (nI_1 _) (by decide) rfl ?_
        refine E_goto (tgt := 14) dX0_passNight_45 (by decide) ?_
        rw [show n1 s (i + 1) = n1 s i from by simp [n1, orB, c25]] at ih
        exact ih
      · have c25 := b2i_n0 c25
        refine E_aload_n dX0_passNight_28 rfl ?_
        refine E_iload_n dX0_passNight_29 rfl ?_
        refine E_callV (As := [.int (nI i)]) (l' := [.ref 27, .int (nI i), .null, .null]) (st := []) dX0_passNight_30 kX0_73 iX0_smoulder vX0_smoulder (by decide) rfl rfl MX0_smoulder rfl rfl (Nat.le_of_ble_eq_true rfl) (FC.use (c_smoulder (d + 1) ((n1 s i).1) i (by omega)) rfl (L2 := [(27, .inr (0, [.ref 28, .ref 29, .ref 30, .int (skn (smS ((n1 s i).1) i)), .int (sdr (smS ((n1 s i).1) i)), .int (swa (smS ((n1 s i).1) i)), .int (sbu (smS ((n1 s i).1) i)), .int (sni (smS ((n1 s i).1) i))])), (28, .inl (false, 6, sce (smS ((n1 s i).1) i))), (29, .inl (false, 6, she (smS ((n1 s i).1) i))), (30, .inl (false, 6, stu (smS ((n1 s i).1) i)))]) rfl) (Nat.le_of_ble_eq_true rfl) (fun _ _ hq9 => E_fgo ?_ hq9)
        show E _ _ 33 [.ref 27, .int ((n1 s i).2), .int (nI i)] [.int (b2i (smF ((n1 s i).1) i))] (hov hp [(27, .inr (0, [.ref 28, .ref 29, .ref 30, .int (skn (smS ((n1 s i).1) i)), .int (sdr (smS ((n1 s i).1) i)), .int (swa (smS ((n1 s i).1) i)), .int (sbu (smS ((n1 s i).1) i)), .int (sni (smS ((n1 s i).1) i))])), (28, .inl (false, 6, sce (smS ((n1 s i).1) i))), (29, .inl (false, 6, she (smS ((n1 s i).1) i))), (30, .inl (false, 6, stu (smS ((n1 s i).1) i)))]) _
        refine E_if_eq (tgt := 42) dX0_passNight_33 (by decide) (fun c33 => ?_) (fun c33 => ?_)
        · have c33 := b2i_e0 c33
          refine E_iinc (y := nI (i + 1)) (l2 := [.ref 27, .int ((n1 s i).2), .int (nI (i + 1))]) dX0_passNight_42 rfl (nI_1 _) (by decide) rfl ?_
          refine E_goto (tgt := 14) dX0_passNight_45 (by decide) ?_
          rw [show n1 s (i + 1) = (smS ((n1 s i).1) i, (n1 s i).2) from by simp [n1, orB, c25, c33]] at ih
          exact ih
        · have c33 := b2i_n0 c33
          refine E_iload_n dX0_passNight_36 rfl ?_
          refine E_iconst (v := 1) dX0_passNight_37 (by decide) ?_
          refine E_iload_n dX0_passNight_38 rfl ?_
          refine E_ishl dX0_passNight_39 ?_
          refine E_ior dX0_passNight_40 ?_
          refine E_istore_n (l2 := [.ref 27, .int (((n1 s i).2) ||| (1 <<< (nI i &&& 31))), .int (nI i)]) dX0_passNight_41 rfl (by decide) rfl ?_
          refine E_iinc (y := nI (i + 1)) (l2 := [.ref 27, .int (((n1 s i).2) ||| (1 <<< (nI i &&& 31))), .int (nI (i + 1))]) dX0_passNight_42 rfl (nI_1 _) (by decide) rfl ?_
          refine E_goto (tgt := 14) dX0_passNight_45 (by decide) ?_
          rw [show n1 s (i + 1) = (smS ((n1 s i).1) i, ((n1 s i).2) ||| (1 <<< (nI i &&& 31))) from by simp [n1, orB, c25, c33]] at ih
          exact ih
  exact L14 0 (by decide)

set_option maxHeartbeats 4000000 in
set_option maxRecDepth 20000 in
theorem c_perform_0 (d : Nat) (s : CS) (h : Nat) (hh : h < 6) (cell : Int32) : FC YX0_perform (d + 4) [.ref 27, .int 0, .int (nI h), .int cell] [(27, .inr (0, [.ref 28, .ref 29, .ref 30, .int (skn s), .int (sdr s), .int (swa s), .int (sbu s), .int (sni s)])), (28, .inl (false, 6, sce s)), (29, .inl (false, 6, she s)), (30, .inl (false, 6, stu s))] (some (.int (prF s 0))) [(27, .inr (0, [.ref 28, .ref 29, .ref 30, .int (skn (prS s 0 h cell)), .int (sdr (prS s 0 h cell)), .int (swa (prS s 0 h cell)), .int (sbu (prS s 0 h cell)), .int (sni (prS s 0 h cell))])), (28, .inl (false, 6, sce (prS s 0 h cell))), (29, .inl (false, 6, she (prS s 0 h cell))), (30, .inl (false, 6, stu (prS s 0 h cell)))] := by
  intro hp
  refine E_iload_n dX0_perform_0 rfl ?_
  refine E_tableIn (off := 35) (tgt := 36) dX0_perform_1 (by decide) (by decide) (by decide) (by decide) ?_
  refine E_aload_n dX0_perform_36 rfl ?_
  refine E_get dX0_perform_37 fX0_9 (by decide) rfl rfl ?_
  refine E_iload_n dX0_perform_40 rfl ?_
  refine E_iload_n dX0_perform_41 rfl ?_
  refine E_iastN (j := h) (f2 := upd (sce s) h cell) (L2 := [(27, .inr (0, [.ref 28, .ref 29, .ref 30, .int (skn s), .int (sdr s), .int (swa s), .int (sbu s), .int (sni s)])), (28, .inl (false, 6, (upd (sce s) h cell))), (29, .inl (false, 6, she s)), (30, .inl (false, 6, stu s))]) dX0_perform_42 (by decide) rfl (by omega) (by decide) rfl rfl ?_
  refine E_aload_n dX0_perform_43 rfl ?_
  refine E_dup dX0_perform_44 rfl ?_
  refine E_get dX0_perform_45 fX0_28 (by decide) rfl rfl ?_
  refine E_iconst (v := 1) dX0_perform_48 (by decide) ?_
  refine E_iload_n dX0_perform_49 rfl ?_
  refine E_ishl dX0_perform_50 ?_
  refine E_iconst (v := (-1)) dX0_perform_51 (by decide) ?_
  refine E_ixor dX0_perform_52 ?_
  refine E_iand dX0_perform_53 ?_
  refine E_puti (fs2 := [.ref 28, .ref 29, .ref 30, .int (skn s), .int ((sdr s) &&& ((1 <<< (nI h &&& 31)) ^^^ (-1))), .int (swa s), .int (sbu s), .int (sni s)]) (L2 := [(27, .inr (0, [.ref 28, .ref 29, .ref 30, .int (skn s), .int ((sdr s) &&& ((1 <<< (nI h &&& 31)) ^^^ (-1))), .int (swa s), .int (sbu s), .int (sni s)])), (28, .inl (false, 6, (upd (sce s) h cell))), (29, .inl (false, 6, she s)), (30, .inl (false, 6, stu s))]) dX0_perform_54 fX0_28 fpX0_4 (by decide) rfl (Nat.le_of_ble_eq_true rfl) rfl rfl ?_
  refine E_iconst (v := 0) dX0_perform_57 (by decide) ?_
  exact E_iretf dX0_perform_58 rfl rfl rfl rfl

set_option maxHeartbeats 4000000 in
set_option maxRecDepth 20000 in
theorem c_perform_1 (d : Nat) (s : CS) (h : Nat) (hh : h < 6) (cell : Int32) : FC YX0_perform (d + 4) [.ref 27, .int 1, .int (nI h), .int cell] [(27, .inr (0, [.ref 28, .ref 29, .ref 30, .int (skn s), .int (sdr s), .int (swa s), .int (sbu s), .int (sni s)])), (28, .inl (false, 6, sce s)), (29, .inl (false, 6, she s)), (30, .inl (false, 6, stu s))] (some (.int (prF s 1))) [(27, .inr (0, [.ref 28, .ref 29, .ref 30, .int (skn (prS s 1 h cell)), .int (sdr (prS s 1 h cell)), .int (swa (prS s 1 h cell)), .int (sbu (prS s 1 h cell)), .int (sni (prS s 1 h cell))])), (28, .inl (false, 6, sce (prS s 1 h cell))), (29, .inl (false, 6, she (prS s 1 h cell))), (30, .inl (false, 6, stu (prS s 1 h cell)))] := by
  intro hp
  refine E_iload_n dX0_perform_0 rfl ?_
  refine E_tableIn (off := 58) (tgt := 59) dX0_perform_1 (by decide) (by decide) (by decide) (by decide) ?_
  refine E_aload_n dX0_perform_59 rfl ?_
  refine E_get dX0_perform_60 fX0_18 (by decide) rfl rfl ?_
  refine E_iload_n dX0_perform_63 rfl ?_
  refine E_dup2 dX0_perform_64 rfl rfl ?_
  refine E_ialdN (j := h) dX0_perform_65 (by decide) rfl (by omega) (by decide) ?_
  refine E_iconst (v := 1) dX0_perform_66 (by decide) ?_
  refine E_iadd dX0_perform_67 ?_
  refine E_iastN (j := h) (f2 := upd (stu s) h (((stu s) h) + 1)) (L2 := [(27, .inr (0, [.ref 28, .ref 29, .ref 30, .int (skn s), .int (sdr s), .int (swa s), .int (sbu s), .int (sni s)])), (28, .inl (false, 6, sce s)), (29, .inl (false, 6, she s)), (30, .inl (false, 6, (upd (stu s) h (((stu s) h) + 1))))]) dX0_perform_68 (by decide) rfl (by omega) (by decide) rfl rfl ?_
  refine E_iconst (v := 0) dX0_perform_69 (by decide) ?_
  exact E_iretf dX0_perform_70 rfl rfl rfl rfl

set_option maxHeartbeats 4000000 in
set_option maxRecDepth 20000 in
theorem c_perform_2 (d : Nat) (s : CS) (h : Nat) (hh : h < 6) (cell : Int32) : FC YX0_perform (d + 4) [.ref 27, .int 2, .int (nI h), .int cell] [(27, .inr (0, [.ref 28, .ref 29, .ref 30, .int (skn s), .int (sdr s), .int (swa s), .int (sbu s), .int (sni s)])), (28, .inl (false, 6, sce s)), (29, .inl (false, 6, she s)), (30, .inl (false, 6, stu s))] (some (.int (prF s 2))) [(27, .inr (0, [.ref 28, .ref 29, .ref 30, .int (skn (prS s 2 h cell)), .int (sdr (prS s 2 h cell)), .int (swa (prS s 2 h cell)), .int (sbu (prS s 2 h cell)), .int (sni (prS s 2 h cell))])), (28, .inl (false, 6, sce (prS s 2 h cell))), (29, .inl (false, 6, she (prS s 2 h cell))), (30, .inl (false, 6, stu (prS s 2 h cell)))] := by
  intro hp
  refine E_iload_n dX0_perform_0 rfl ?_
  refine E_tableIn (off := 70) (tgt := 71) dX0_perform_1 (by decide) (by decide) (by decide) (by decide) ?_
  refine E_aload_n dX0_perform_71 rfl ?_
  refine E_get dX0_perform_72 fX0_18 (by decide) rfl rfl ?_
  refine E_iload_n dX0_perform_75 rfl ?_
  refine E_dup2 dX0_perform_76 rfl rfl ?_
  refine E_ialdN (j := h) dX0_perform_77 (by decide) rfl (by omega) (by decide) ?_
  refine E_iconst (v := 1) dX0_perform_78 (by decide) ?_
  refine E_isub dX0_perform_79 ?_
  refine E_iastN (j := h) (f2 := upd (stu s) h (((stu s) h) - 1)) (L2 := [(27, .inr (0, [.ref 28, .ref 29, .ref 30, .int (skn s), .int (sdr s), .int (swa s), .int (sbu s), .int (sni s)])), (28, .inl (false, 6, sce s)), (29, .inl (false, 6, she s)), (30, .inl (false, 6, (upd (stu s) h (((stu s) h) - 1))))]) dX0_perform_80 (by decide) rfl (by omega) (by decide) rfl rfl ?_
  refine E_iconst (v := 0) dX0_perform_81 (by decide) ?_
  exact E_iretf dX0_perform_82 rfl rfl rfl rfl

set_option maxHeartbeats 4000000 in
set_option maxRecDepth 20000 in
theorem c_perform_3 (d : Nat) (s : CS) (h : Nat) (hh : h < 6) (cell : Int32) : FC YX0_perform (d + 4) [.ref 27, .int 3, .int (nI h), .int cell] [(27, .inr (0, [.ref 28, .ref 29, .ref 30, .int (skn s), .int (sdr s), .int (swa s), .int (sbu s), .int (sni s)])), (28, .inl (false, 6, sce s)), (29, .inl (false, 6, she s)), (30, .inl (false, 6, stu s))] (some (.int (prF s 3))) [(27, .inr (0, [.ref 28, .ref 29, .ref 30, .int (skn (prS s 3 h cell)), .int (sdr (prS s 3 h cell)), .int (swa (prS s 3 h cell)), .int (sbu (prS s 3 h cell)), .int (sni (prS s 3 h cell))])), (28, .inl (false, 6, sce (prS s 3 h cell))), (29, .inl (false, 6, she (prS s 3 h cell))), (30, .inl (false, 6, stu (prS s 3 h cell)))] := by
  intro hp
  refine E_iload_n dX0_perform_0 rfl ?_
  refine E_tableIn (off := 82) (tgt := 83) dX0_perform_1 (by decide) (by decide) (by decide) (by decide) ?_
  refine E_aload_n dX0_perform_83 rfl ?_
  refine E_get dX0_perform_84 fX0_15 (by decide) rfl rfl ?_
  refine E_iload_n dX0_perform_87 rfl ?_
  refine E_iconst (v := 3) dX0_perform_88 (by decide) ?_
  refine E_iastN (j := h) (f2 := upd (she s) h 3) (L2 := [(27, .inr (0, [.ref 28, .ref 29, .ref 30, .int (skn s), .int (sdr s), .int (swa s), .int (sbu s), .int (sni s)])), (28, .inl (false, 6, sce s)), (29, .inl (false, 6, (upd (she s) h 3))), (30, .inl (false, 6, stu s))]) dX0_perform_89 (by decide) rfl (by omega) (by decide) rfl rfl ?_
  refine E_iconst (v := 0) dX0_perform_90 (by decide) ?_
  exact E_iretf dX0_perform_91 rfl rfl rfl rfl

set_option maxHeartbeats 4000000 in
set_option maxRecDepth 20000 in
theorem c_perform_4 (d : Nat) (s : CS) (h : Nat) (hh : h < 6) (cell : Int32) : FC YX0_perform (d + 4) [.ref 27, .int 4, .int (nI h), .int cell] [(27, .inr (0, [.ref 28, .ref 29, .ref 30, .int (skn s), .int (sdr s), .int (swa s), .int (sbu s), .int (sni s)])), (28, .inl (false, 6, sce s)), (29, .inl (false, 6, she s)), (30, .inl (false, 6, stu s))] (some (.int (prF s 4))) [(27, .inr (0, [.ref 28, .ref 29, .ref 30, .int (skn (prS s 4 h cell)), .int (sdr (prS s 4 h cell)), .int (swa (prS s 4 h cell)), .int (sbu (prS s 4 h cell)), .int (sni (prS s 4 h cell))])), (28, .inl (false, 6, sce (prS s 4 h cell))), (29, .inl (false, 6, she (prS s 4 h cell))), (30, .inl (false, 6, stu (prS s 4 h cell)))] := by
  intro hp
  refine E_iload_n dX0_perform_0 rfl ?_
  refine E_tableIn (off := 91) (tgt := 92) dX0_perform_1 (by decide) (by decide) (by decide) (by decide) ?_
  refine E_aload_n dX0_perform_92 rfl ?_
  refine E_dup dX0_perform_93 rfl ?_
  refine E_get dX0_perform_94 fX0_31 (by decide) rfl rfl ?_
  refine E_iconst (v := 1) dX0_perform_97 (by decide) ?_
  refine E_iload_n dX0_perform_98 rfl ?_
  refine E_ishl dX0_perform_99 ?_
  refine E_ixor dX0_perform_100 ?_
  refine E_puti (fs2 := [.ref 28, .ref 29, .ref 30, .int (skn s), .int (sdr s), .int ((swa s) ^^^ (1 <<< (nI h &&& 31))), .int (sbu s), .int (sni s)]) (L2 := [(27, .inr (0, [.ref 28, .ref 29, .ref 30, .int (skn s), .int (sdr s), .int ((swa s) ^^^ (1 <<< (nI h &&& 31))), .int (sbu s), .int (sni s)])), (28, .inl (false, 6, sce s)), (29, .inl (false, 6, she s)), (30, .inl (false, 6, stu s))]) dX0_perform_101 fX0_31 fpX0_5 (by decide) rfl (Nat.le_of_ble_eq_true rfl) rfl rfl ?_
  refine E_iconst (v := 0) dX0_perform_104 (by decide) ?_
  exact E_iretf dX0_perform_105 rfl rfl rfl rfl

set_option maxHeartbeats 4000000 in
set_option maxRecDepth 20000 in
theorem c_perform_5 (d : Nat) (s : CS) (h : Nat) (hh : h < 6) (cell : Int32) : FC YX0_perform (d + 4) [.ref 27, .int 5, .int (nI h), .int cell] [(27, .inr (0, [.ref 28, .ref 29, .ref 30, .int (skn s), .int (sdr s), .int (swa s), .int (sbu s), .int (sni s)])), (28, .inl (false, 6, sce s)), (29, .inl (false, 6, she s)), (30, .inl (false, 6, stu s))] (some (.int (prF s 5))) [(27, .inr (0, [.ref 28, .ref 29, .ref 30, .int (skn (prS s 5 h cell)), .int (sdr (prS s 5 h cell)), .int (swa (prS s 5 h cell)), .int (sbu (prS s 5 h cell)), .int (sni (prS s 5 h cell))])), (28, .inl (false, 6, sce (prS s 5 h cell))), (29, .inl (false, 6, she (prS s 5 h cell))), (30, .inl (false, 6, stu (prS s 5 h cell)))] := by
  intro hp
  refine E_iload_n dX0_perform_0 rfl ?_
  refine E_tableOut (tgt := 106) dX0_perform_1 (by decide) (by decide) ?_
  refine E_aload_n dX0_perform_106 rfl ?_
  refine E_callV (As := []) (l' := [.ref 27, .null, .null]) (st := []) dX0_perform_107 kX0_69 iX0_passNight vX0_passNight (by decide) rfl rfl MX0_passNight rfl rfl (Nat.le_of_ble_eq_true rfl) (FC.use (c_passNight d s) rfl (L2 := [(27, .inr (0, [.ref 28, .ref 29, .ref 30, .int (skn (ngS s)), .int (sdr (ngS s)), .int (swa (ngS s)), .int (sbu (ngS s)), .int (sni (ngS s))])), (28, .inl (false, 6, sce (ngS s))), (29, .inl (false, 6, she (ngS s))), (30, .inl (false, 6, stu (ngS s)))]) rfl) (Nat.le_of_ble_eq_true rfl) (fun _ _ hq9 => E_fgo ?_ hq9)
  show E _ _ 110 [.ref 27, .int 5, .int (nI h), .int cell] [.int (ngF s)] (hov hp [(27, .inr (0, [.ref 28, .ref 29, .ref 30, .int (skn (ngS s)), .int (sdr (ngS s)), .int (swa (ngS s)), .int (sbu (ngS s)), .int (sni (ngS s))])), (28, .inl (false, 6, sce (ngS s))), (29, .inl (false, 6, she (ngS s))), (30, .inl (false, 6, stu (ngS s)))]) _
  exact E_iretf dX0_perform_110 rfl rfl rfl rfl

def cpy (f g : Nat → Int32) (n : Nat) : Nat → Int32 := fun j => if j < n then g j else f j
theorem cpy_0 (f g : Nat → Int32) : cpy f g 0 = f := by funext j; simp [cpy]
theorem cpy_s (f g : Nat → Int32) (n : Nat) : upd (cpy f g n) n (g n) = cpy f g (n + 1) := by
  funext j
  simp only [upd, cpy]
  by_cases h : j = n
  · subst h; simp
  · rw [if_neg h]
    by_cases h2 : j < n
    · rw [if_pos h2, if_pos (by omega)]
    · rw [if_neg h2, if_neg (by omega)]
theorem cpy_all {f g : Nat → Int32} {n : Nat} (h : ∀ j, n ≤ j → f j = g j) : cpy f g n = g := by
  funext j
  simp only [cpy]
  by_cases h2 : j < n
  · rw [if_pos h2]
  · rw [if_neg h2, h j (by omega)]
/-- two clearings agree where nothing is written -/
def Agr (s t : CS) : Prop := (∀ j, 6 ≤ j → sce s j = sce t j) ∧ (∀ j, 6 ≤ j → she s j = she t j) ∧ (∀ j, 6 ≤ j → stu s j = stu t j)

set_option maxHeartbeats 4000000 in
set_option maxRecDepth 20000 in
theorem c_copy_27_1 (d : Nat) (s t : CS) (hA : Agr s t) : FC YX0_copyFrom d [.ref 27, .ref 1, .null] [(1, .inr (0, [.ref 2, .ref 3, .ref 4, .int (skn t), .int (sdr t), .int (swa t), .int (sbu t), .int (sni t)])), (2, .inl (false, 6, sce t)), (3, .inl (false, 6, she t)), (4, .inl (false, 6, stu t)), (27, .inr (0, [.ref 28, .ref 29, .ref 30, .int (skn s), .int (sdr s), .int (swa s), .int (sbu s), .int (sni s)])), (28, .inl (false, 6, sce s)), (29, .inl (false, 6, she s)), (30, .inl (false, 6, stu s))] (none) [(1, .inr (0, [.ref 2, .ref 3, .ref 4, .int (skn t), .int (sdr t), .int (swa t), .int (sbu t), .int (sni t)])), (2, .inl (false, 6, sce t)), (3, .inl (false, 6, she t)), (4, .inl (false, 6, stu t)), (27, .inr (0, [.ref 28, .ref 29, .ref 30, .int (skn t), .int (sdr t), .int (swa t), .int (sbu t), .int (sni t)])), (28, .inl (false, 6, sce t)), (29, .inl (false, 6, she t)), (30, .inl (false, 6, stu t))] := by
  intro hp
  refine E_iconst (v := 0) dX0_copyFrom_0 (by decide) ?_
  refine E_istore_n (l2 := [.ref 27, .ref 1, .int 0]) dX0_copyFrom_1 rfl (by decide) rfl ?_
  have L2 : ∀ i, i ≤ 6 → E YX0_copyFrom d 2 [.ref 27, .ref 1, .int (nI i)] [] (hov hp [(1, .inr (0, [.ref 2, .ref 3, .ref 4, .int (skn t), .int (sdr t), .int (swa t), .int (sbu t), .int (sni t)])), (2, .inl (false, 6, sce t)), (3, .inl (false, 6, she t)), (4, .inl (false, 6, stu t)), (27, .inr (0, [.ref 28, .ref 29, .ref 30, .int (skn s), .int (sdr s), .int (swa s), .int (sbu s), .int (sni s)])), (28, .inl (false, 6, (cpy (sce s) (sce t) i))), (29, .inl (false, 6, (cpy (she s) (she t) i))), (30, .inl (false, 6, (cpy (stu s) (stu t) i)))]) (fun v h' => v = none ∧ h' = hov hp [(1, .inr (0, [.ref 2, .ref 3, .ref 4, .int (skn t), .int (sdr t), .int (swa t), .int (sbu t), .int (sni t)])), (2, .inl (false, 6, sce t)), (3, .inl (false, 6, she t)), (4, .inl (false, 6, stu t)), (27, .inr (0, [.ref 28, .ref 29, .ref 30, .int (skn t), .int (sdr t), .int (swa t), .int (sbu t), .int (sni t)])), (28, .inl (false, 6, sce t)), (29, .inl (false, 6, she t)), (30, .inl (false, 6, stu t))]) := by
    refine down 6 ?_ ?_
    · refine E_iload_n dX0_copyFrom_2 rfl ?_
      refine E_bipush (v := 6) dX0_copyFrom_3 (by decide) ?_
      refine E_icmp_ge (tgt := 50) dX0_copyFrom_5 (by decide) (fun _ => ?_) (fun c => absurd (by decide) c)
      refine E_aload_n dX0_copyFrom_50 rfl ?_
      refine E_aload_n dX0_copyFrom_51 rfl ?_
      refine E_get dX0_copyFrom_52 fX0_25 (by decide) rfl rfl ?_
      refine E_puti (fs2 := [.ref 28, .ref 29, .ref 30, .int (skn t), .int (sdr s), .int (swa s), .int (sbu s), .int (sni s)]) (L2 := [(1, .inr (0, [.ref 2, .ref 3, .ref 4, .int (skn t), .int (sdr t), .int (swa t), .int (sbu t), .int (sni t)])), (2, .inl (false, 6, sce t)), (3, .inl (false, 6, she t)), (4, .inl (false, 6, stu t)), (27, .inr (0, [.ref 28, .ref 29, .ref 30, .int (skn t), .int (sdr s), .int (swa s), .int (sbu s), .int (sni s)])), (28, .inl (false, 6, (cpy (sce s) (sce t) 6))), (29, .inl (false, 6, (cpy (she s) (she t) 6))), (30, .inl (false, 6, (cpy (stu s) (stu t) 6)))]) dX0_copyFrom_55 fX0_25 fpX0_3 (by decide) rfl (Nat.le_of_ble_eq_true rfl) rfl rfl ?_
      refine E_aload_n dX0_copyFrom_58 rfl ?_
      refine E_aload_n dX0_copyFrom_59 rfl ?_
      refine E_get dX0_copyFrom_60 fX0_28 (by decide) rfl rfl ?_
      refine E_puti (fs2 := [.ref 28, .ref 29, .ref 30, .int (skn t), .int (sdr t), .int (swa s), .int (sbu s), .int (sni s)]) (L2 := [(1, .inr (0, [.ref 2, .ref 3, .ref 4, .int (skn t), .int (sdr t), .int (swa t), .int (sbu t), .int (sni t)])), (2, .inl (false, 6, sce t)), (3, .inl (false, 6, she t)), (4, .inl (false, 6, stu t)), (27, .inr (0, [.ref 28, .ref 29, .ref 30, .int (skn t), .int (sdr t), .int (swa s), .int (sbu s), .int (sni s)])), (28, .inl (false, 6, (cpy (sce s) (sce t) 6))), (29, .inl (false, 6, (cpy (she s) (she t) 6))), (30, .inl (false, 6, (cpy (stu s) (stu t) 6)))]) dX0_copyFrom_63 fX0_28 fpX0_4 (by decide) rfl (Nat.le_of_ble_eq_true rfl) rfl rfl ?_
      refine E_aload_n dX0_copyFrom_66 rfl ?_
      refine E_aload_n dX0_copyFrom_67 rfl ?_
      refine E_get dX0_copyFrom_68 fX0_31 (by decide) rfl rfl ?_
      refine E_puti (fs2 := [.ref 28, .ref 29, .ref 30, .int (skn t), .int (sdr t), .int (swa t), .int (sbu s), .int (sni s)]) (L2 := [(1, .inr (0, [.ref 2, .ref 3, .ref 4, .int (skn t), .int (sdr t), .int (swa t), .int (sbu t), .int (sni t)])), (2, .inl (false, 6, sce t)), (3, .inl (false, 6, she t)), (4, .inl (false, 6, stu t)), (27, .inr (0, [.ref 28, .ref 29, .ref 30, .int (skn t), .int (sdr t), .int (swa t), .int (sbu s), .int (sni s)])), (28, .inl (false, 6, (cpy (sce s) (sce t) 6))), (29, .inl (false, 6, (cpy (she s) (she t) 6))), (30, .inl (false, 6, (cpy (stu s) (stu t) 6)))]) dX0_copyFrom_71 fX0_31 fpX0_5 (by decide) rfl (Nat.le_of_ble_eq_true rfl) rfl rfl ?_
      refine E_aload_n dX0_copyFrom_74 rfl ?_
      refine E_aload_n dX0_copyFrom_75 rfl ?_
      refine E_get dX0_copyFrom_76 fX0_21 (by decide) rfl rfl ?_
      refine E_puti (fs2 := [.ref 28, .ref 29, .ref 30, .int (skn t), .int (sdr t), .int (swa t), .int (sbu t), .int (sni s)]) (L2 := [(1, .inr (0, [.ref 2, .ref 3, .ref 4, .int (skn t), .int (sdr t), .int (swa t), .int (sbu t), .int (sni t)])), (2, .inl (false, 6, sce t)), (3, .inl (false, 6, she t)), (4, .inl (false, 6, stu t)), (27, .inr (0, [.ref 28, .ref 29, .ref 30, .int (skn t), .int (sdr t), .int (swa t), .int (sbu t), .int (sni s)])), (28, .inl (false, 6, (cpy (sce s) (sce t) 6))), (29, .inl (false, 6, (cpy (she s) (she t) 6))), (30, .inl (false, 6, (cpy (stu s) (stu t) 6)))]) dX0_copyFrom_79 fX0_21 fpX0_6 (by decide) rfl (Nat.le_of_ble_eq_true rfl) rfl rfl ?_
      refine E_aload_n dX0_copyFrom_82 rfl ?_
      refine E_aload_n dX0_copyFrom_83 rfl ?_
      refine E_get dX0_copyFrom_84 fX0_34 (by decide) rfl rfl ?_
      refine E_puti (fs2 := [.ref 28, .ref 29, .ref 30, .int (skn t), .int (sdr t), .int (swa t), .int (sbu t), .int (sni t)]) (L2 := [(1, .inr (0, [.ref 2, .ref 3, .ref 4, .int (skn t), .int (sdr t), .int (swa t), .int (sbu t), .int (sni t)])), (2, .inl (false, 6, sce t)), (3, .inl (false, 6, she t)), (4, .inl (false, 6, stu t)), (27, .inr (0, [.ref 28, .ref 29, .ref 30, .int (skn t), .int (sdr t), .int (swa t), .int (sbu t), .int (sni t)])), (28, .inl (false, 6, (cpy (sce s) (sce t) 6))), (29, .inl (false, 6, (cpy (she s) (she t) 6))), (30, .inl (false, 6, (cpy (stu s) (stu t) 6)))]) dX0_copyFrom_87 fX0_34 fpX0_7 (by decide) rfl (Nat.le_of_ble_eq_true rfl) rfl rfl ?_
      exact E_vretf dX0_copyFrom_90 rfl (by rw [cpy_all hA.1, cpy_all hA.2.1, cpy_all hA.2.2])
    · intro i hi ih
      refine E_iload_n dX0_copyFrom_2 rfl ?_
      refine E_bipush (v := 6) dX0_copyFrom_3 (by decide) ?_
      refine E_icmp_ge (tgt := 50) dX0_copyFrom_5 (by decide) (fun c => absurd c (cI_nle (n := 6) rfl hi (by decide))) (fun _ => ?_)
      refine E_aload_n dX0_copyFrom_8 rfl ?_
      refine E_get dX0_copyFrom_9 fX0_9 (by decide) rfl rfl ?_
      refine E_iload_n dX0_copyFrom_12 rfl ?_
      refine E_aload_n dX0_copyFrom_13 rfl ?_
      refine E_get dX0_copyFrom_14 fX0_9 (by decide) rfl rfl ?_
      refine E_iload_n dX0_copyFrom_17 rfl ?_
      refine E_ialdN (j := i) dX0_copyFrom_18 (by decide) rfl (by omega) (by decide) ?_
      refine E_iastN (j := i) (f2 := cpy (sce s) (sce t) (i + 1)) (L2 := [(1, .inr (0, [.ref 2, .ref 3, .ref 4, .int (skn t), .int (sdr t), .int (swa t), .int (sbu t), .int (sni t)])), (2, .inl (false, 6, sce t)), (3, .inl (false, 6, she t)), (4, .inl (false, 6, stu t)), (27, .inr (0, [.ref 28, .ref 29, .ref 30, .int (skn s), .int (sdr s), .int (swa s), .int (sbu s), .int (sni s)])), (28, .inl (false, 6, (cpy (sce s) (sce t) (i + 1)))), (29, .inl (false, 6, (cpy (she s) (she t) i))), (30, .inl (false, 6, (cpy (stu s) (stu t) i)))]) dX0_copyFrom_19 (by decide) rfl (by omega) (by decide) (cpy_s _ _ _) rfl ?_
      refine E_aload_n dX0_copyFrom_20 rfl ?_
      refine E_get dX0_copyFrom_21 fX0_15 (by decide) rfl rfl ?_
      refine E_iload_n dX0_copyFrom_24 rfl ?_
      refine E_aload_n dX0_copyFrom_25 rfl ?_
      refine E_get dX0_copyFrom_26 fX0_15 (by decide) rfl rfl ?_
      refine E_iload_n dX0_copyFrom_29 rfl ?_
      refine E_ialdN (j := i) dX0_copyFrom_30 (by decide) rfl (by omega) (by decide) ?_
      refine E_iastN (j := i) (f2 := cpy (she s) (she t) (i + 1)) (L2 := [(1, .inr (0, [.ref 2, .ref 3, .ref 4, .int (skn t), .int (sdr t), .int (swa t), .int (sbu t), .int (sni t)])), (2, .inl (false, 6, sce t)), (3, .inl (false, 6, she t)), (4, .inl (false, 6, stu t)), (27, .inr (0, [.ref 28, .ref 29, .ref 30, .int (skn s), .int (sdr s), .int (swa s), .int (sbu s), .int (sni s)])), (28, .inl (false, 6, (cpy (sce s) (sce t) (i + 1)))), (29, .inl (false, 6, (cpy (she s) (she t) (i + 1)))), (30, .inl (false, 6, (cpy (stu s) (stu t) i)))]) dX0_copyFrom_31 (by decide) rfl (by omega) (by decide) (cpy_s _ _ _) rfl ?_
      refine E_aload_n dX0_copyFrom_32 rfl ?_
      refine E_get dX0_copyFrom_33 fX0_18 (by decide) rfl rfl ?_
      refine E_iload_n dX0_copyFrom_36 rfl ?_
      refine E_aload_n dX0_copyFrom_37 rfl ?_
      refine E_get dX0_copyFrom_38 fX0_18 (by decide) rfl rfl ?_
      refine E_iload_n dX0_copyFrom_41 rfl ?_
      refine E_ialdN (j := i) dX0_copyFrom_42 (by decide) rfl (by omega) (by decide) ?_
      refine E_iastN (j := i) (f2 := cpy (stu s) (stu t) (i + 1)) (L2 := [(1, .inr (0, [.ref 2, .ref 3, .ref 4, .int (skn t), .int (sdr t), .int (swa t), .int (sbu t), .int (sni t)])), (2, .inl (false, 6, sce t)), (3, .inl (false, 6, she t)), (4, .inl (false, 6, stu t)), (27, .inr (0, [.ref 28, .ref 29, .ref 30, .int (skn s), .int (sdr s), .int (swa s), .int (sbu s), .int (sni s)])), (28, .inl (false, 6, (cpy (sce s) (sce t) (i + 1)))), (29, .inl (false, 6, (cpy (she s) (she t) (i + 1)))), (30, .inl (false, 6, (cpy (stu s) (stu t) (i + 1))))]) dX0_copyFrom_43 (by decide) rfl (by omega) (by decide) (cpy_s _ _ _) rfl ?_
      refine E_iinc (y := nI (i + 1)) (l2 := [.ref 27, .ref 1, .int (nI (i + 1))]) dX0_copyFrom_44 rfl (nI_1 _) (by decide) rfl ?_
      refine E_goto (tgt := 2) dX0_copyFrom_47 (by decide) ?_
      exact ih
  have e0 := L2 0 (by decide)
  rw [cpy_0, cpy_0, cpy_0] at e0
  exact e0

set_option maxHeartbeats 4000000 in
set_option maxRecDepth 20000 in
theorem c_copy_1_27 (d : Nat) (s t : CS) (hA : Agr s t) : FC YX0_copyFrom d [.ref 1, .ref 27, .null] [(1, .inr (0, [.ref 2, .ref 3, .ref 4, .int (skn s), .int (sdr s), .int (swa s), .int (sbu s), .int (sni s)])), (2, .inl (false, 6, sce s)), (3, .inl (false, 6, she s)), (4, .inl (false, 6, stu s)), (27, .inr (0, [.ref 28, .ref 29, .ref 30, .int (skn t), .int (sdr t), .int (swa t), .int (sbu t), .int (sni t)])), (28, .inl (false, 6, sce t)), (29, .inl (false, 6, she t)), (30, .inl (false, 6, stu t))] (none) [(1, .inr (0, [.ref 2, .ref 3, .ref 4, .int (skn t), .int (sdr t), .int (swa t), .int (sbu t), .int (sni t)])), (2, .inl (false, 6, sce t)), (3, .inl (false, 6, she t)), (4, .inl (false, 6, stu t)), (27, .inr (0, [.ref 28, .ref 29, .ref 30, .int (skn t), .int (sdr t), .int (swa t), .int (sbu t), .int (sni t)])), (28, .inl (false, 6, sce t)), (29, .inl (false, 6, she t)), (30, .inl (false, 6, stu t))] := by
  intro hp
  refine E_iconst (v := 0) dX0_copyFrom_0 (by decide) ?_
  refine E_istore_n (l2 := [.ref 1, .ref 27, .int 0]) dX0_copyFrom_1 rfl (by decide) rfl ?_
  have L2 : ∀ i, i ≤ 6 → E YX0_copyFrom d 2 [.ref 1, .ref 27, .int (nI i)] [] (hov hp [(1, .inr (0, [.ref 2, .ref 3, .ref 4, .int (skn s), .int (sdr s), .int (swa s), .int (sbu s), .int (sni s)])), (2, .inl (false, 6, (cpy (sce s) (sce t) i))), (3, .inl (false, 6, (cpy (she s) (she t) i))), (4, .inl (false, 6, (cpy (stu s) (stu t) i))), (27, .inr (0, [.ref 28, .ref 29, .ref 30, .int (skn t), .int (sdr t), .int (swa t), .int (sbu t), .int (sni t)])), (28, .inl (false, 6, sce t)), (29, .inl (false, 6, she t)), (30, .inl (false, 6, stu t))]) (fun v h' => v = none ∧ h' = hov hp [(1, .inr (0, [.ref 2, .ref 3, .ref 4, .int (skn t), .int (sdr t), .int (swa t), .int (sbu t), .int (sni t)])), (2, .inl (false, 6, sce t)), (3, .inl (false, 6, she t)), (4, .inl (false, 6, stu t)), (27, .inr (0, [.ref 28, .ref 29, .ref 30, .int (skn t), .int (sdr t), .int (swa t), .int (sbu t), .int (sni t)])), (28, .inl (false, 6, sce t)), (29, .inl (false, 6, she t)), (30, .inl (false, 6, stu t))]) := by
    refine down 6 ?_ ?_
    · refine E_iload_n dX0_copyFrom_2 rfl ?_
      refine E_bipush (v := 6) dX0_copyFrom_3 (by decide) ?_
      refine E_icmp_ge (tgt := 50) dX0_copyFrom_5 (by decide) (fun _ => ?_) (fun c => absurd (by decide) c)
      refine E_aload_n dX0_copyFrom_50 rfl ?_
      refine E_aload_n dX0_copyFrom_51 rfl ?_
      refine E_get dX0_copyFrom_52 fX0_25 (by decide) rfl rfl ?_
      refine E_puti (fs2 := [.ref 2, .ref 3, .ref 4, .int (skn t), .int (sdr s), .int (swa s), .int (sbu s), .int (sni s)]) (L2 := [(1, .inr (0, [.ref 2, .ref 3, .ref 4, .int (skn t), .int (sdr s), .int (swa s), .int (sbu s), .int (sni s)])), (2, .inl (false, 6, (cpy (sce s) (sce t) 6))), (3, .inl (false, 6, (cpy (she s) (she t) 6))), (4, .inl (false, 6, (cpy (stu s) (stu t) 6))), (27, .inr (0, [.ref 28, .ref 29, .ref 30, .int (skn t), .int (sdr t), .int (swa t), .int (sbu t), .int (sni t)])), (28, .inl (false, 6, sce t)), (29, .inl (false, 6, she t)), (30, .inl (false, 6, stu t))]) dX0_copyFrom_55 fX0_25 fpX0_3 (by decide) rfl (Nat.le_of_ble_eq_true rfl) rfl rfl ?_
      refine E_aload_n dX0_copyFrom_58 rfl ?_
      refine E_aload_n dX0_copyFrom_59 rfl ?_
      refine E_get dX0_copyFrom_60 fX0_28 (by decide) rfl rfl ?_
      refine E_puti (fs2 := [.ref 2, .ref 3, .ref 4, .int (skn t), .int (sdr t), .int (swa s), .int (sbu s), .int (sni s)]) (L2 := [(1, .inr (0, [.ref 2, .ref 3, .ref 4, .int (skn t), .int (sdr t), .int (swa s), .int (sbu s), .int (sni s)])), (2, .inl (false, 6, (cpy (sce s) (sce t) 6))), (3, .inl (false, 6, (cpy (she s) (she t) 6))), (4, .inl (false, 6, (cpy (stu s) (stu t) 6))), (27, .inr (0, [.ref 28, .ref 29, .ref 30, .int (skn t), .int (sdr t), .int (swa t), .int (sbu t), .int (sni t)])), (28, .inl (false, 6, sce t)), (29, .inl (false, 6, she t)), (30, .inl (false, 6, stu t))]) dX0_copyFrom_63 fX0_28 fpX0_4 (by decide) rfl (Nat.le_of_ble_eq_true rfl) rfl rfl ?_
      refine E_aload_n dX0_copyFrom_66 rfl ?_
      refine E_aload_n dX0_copyFrom_67 rfl ?_
      refine E_get dX0_copyFrom_68 fX0_31 (by decide) rfl rfl ?_
      refine E_puti (fs2 := [.ref 2, .ref 3, .ref 4, .int (skn t), .int (sdr t), .int (swa t), .int (sbu s), .int (sni s)]) (L2 := [(1, .inr (0, [.ref 2, .ref 3, .ref 4, .int (skn t), .int (sdr t), .int (swa t), .int (sbu s), .int (sni s)])), (2, .inl (false, 6, (cpy (sce s) (sce t) 6))), (3, .inl (false, 6, (cpy (she s) (she t) 6))), (4, .inl (false, 6, (cpy (stu s) (stu t) 6))), (27, .inr (0, [.ref 28, .ref 29, .ref 30, .int (skn t), .int (sdr t), .int (swa t), .int (sbu t), .int (sni t)])), (28, .inl (false, 6, sce t)), (29, .inl (false, 6, she t)), (30, .inl (false, 6, stu t))]) dX0_copyFrom_71 fX0_31 fpX0_5 (by decide) rfl (Nat.le_of_ble_eq_true rfl) rfl rfl ?_
      refine E_aload_n dX0_copyFrom_74 rfl ?_
      refine E_aload_n dX0_copyFrom_75 rfl ?_
      refine E_get dX0_copyFrom_76 fX0_21 (by decide) rfl rfl ?_
      refine E_puti (fs2 := [.ref 2, .ref 3, .ref 4, .int (skn t), .int (sdr t), .int (swa t), .int (sbu t), .int (sni s)]) (L2 := [(1, .inr (0, [.ref 2, .ref 3, .ref 4, .int (skn t), .int (sdr t), .int (swa t), .int (sbu t), .int (sni s)])), (2, .inl (false, 6, (cpy (sce s) (sce t) 6))), (3, .inl (false, 6, (cpy (she s) (she t) 6))), (4, .inl (false, 6, (cpy (stu s) (stu t) 6))), (27, .inr (0, [.ref 28, .ref 29, .ref 30, .int (skn t), .int (sdr t), .int (swa t), .int (sbu t), .int (sni t)])), (28, .inl (false, 6, sce t)), (29, .inl (false, 6, she t)), (30, .inl (false, 6, stu t))]) dX0_copyFrom_79 fX0_21 fpX0_6 (by decide) rfl (Nat.le_of_ble_eq_true rfl) rfl rfl ?_
      refine E_aload_n dX0_copyFrom_82 rfl ?_
      refine E_aload_n dX0_copyFrom_83 rfl ?_
      refine E_get dX0_copyFrom_84 fX0_34 (by decide) rfl rfl ?_
      refine E_puti (fs2 := [.ref 2, .ref 3, .ref 4, .int (skn t), .int (sdr t), .int (swa t), .int (sbu t), .int (sni t)]) (L2 := [(1, .inr (0, [.ref 2, .ref 3, .ref 4, .int (skn t), .int (sdr t), .int (swa t), .int (sbu t), .int (sni t)])), (2, .inl (false, 6, (cpy (sce s) (sce t) 6))), (3, .inl (false, 6, (cpy (she s) (she t) 6))), (4, .inl (false, 6, (cpy (stu s) (stu t) 6))), (27, .inr (0, [.ref 28, .ref 29, .ref 30, .int (skn t), .int (sdr t), .int (swa t), .int (sbu t), .int (sni t)])), (28, .inl (false, 6, sce t)), (29, .inl (false, 6, she t)), (30, .inl (false, 6, stu t))]) dX0_copyFrom_87 fX0_34 fpX0_7 (by decide) rfl (Nat.le_of_ble_eq_true rfl) rfl rfl ?_
      exact E_vretf dX0_copyFrom_90 rfl (by rw [cpy_all hA.1, cpy_all hA.2.1, cpy_all hA.2.2])
    · intro i hi ih
      refine E_iload_n dX0_copyFrom_2 rfl ?_
      refine E_bipush (v := 6) dX0_copyFrom_3 (by decide) ?_
      refine E_icmp_ge (tgt := 50) dX0_copyFrom_5 (by decide) (fun c => absurd c (cI_nle (n := 6) rfl hi (by decide))) (fun _ => ?_)
      refine E_aload_n dX0_copyFrom_8 rfl ?_
      refine E_get dX0_copyFrom_9 fX0_9 (by decide) rfl rfl ?_
      refine E_iload_n dX0_copyFrom_12 rfl ?_
      refine E_aload_n dX0_copyFrom_13 rfl ?_
      refine E_get dX0_copyFrom_14 fX0_9 (by decide) rfl rfl ?_
      refine E_iload_n dX0_copyFrom_17 rfl ?_
      refine E_ialdN (j := i) dX0_copyFrom_18 (by decide) rfl (by omega) (by decide) ?_
      refine E_iastN (j := i) (f2 := cpy (sce s) (sce t) (i + 1)) (L2 := [(1, .inr (0, [.ref 2, .ref 3, .ref 4, .int (skn s), .int (sdr s), .int (swa s), .int (sbu s), .int (sni s)])), (2, .inl (false, 6, (cpy (sce s) (sce t) (i + 1)))), (3, .inl (false, 6, (cpy (she s) (she t) i))), (4, .inl (false, 6, (cpy (stu s) (stu t) i))), (27, .inr (0, [.ref 28, .ref 29, .ref 30, .int (skn t), .int (sdr t), .int (swa t), .int (sbu t), .int (sni t)])), (28, .inl (false, 6, sce t)), (29, .inl (false, 6, she t)), (30, .inl (false, 6, stu t))]) dX0_copyFrom_19 (by decide) rfl (by omega) (by decide) (cpy_s _ _ _) rfl ?_
      refine E_aload_n dX0_copyFrom_20 rfl ?_
      refine E_get dX0_copyFrom_21 fX0_15 (by decide) rfl rfl ?_
      refine E_iload_n dX0_copyFrom_24 rfl ?_
      refine E_aload_n dX0_copyFrom_25 rfl ?_
      refine E_get dX0_copyFrom_26 fX0_15 (by decide) rfl rfl ?_
      refine E_iload_n dX0_copyFrom_29 rfl ?_
      refine E_ialdN (j := i) dX0_copyFrom_30 (by decide) rfl (by omega) (by decide) ?_
      refine E_iastN (j := i) (f2 := cpy (she s) (she t) (i + 1)) (L2 := [(1, .inr (0, [.ref 2, .ref 3, .ref 4, .int (skn s), .int (sdr s), .int (swa s), .int (sbu s), .int (sni s)])), (2, .inl (false, 6, (cpy (sce s) (sce t) (i + 1)))), (3, .inl (false, 6, (cpy (she s) (she t) (i + 1)))), (4, .inl (false, 6, (cpy (stu s) (stu t) i))), (27, .inr (0, [.ref 28, .ref 29, .ref 30, .int (skn t), .int (sdr t), .int (swa t), .int (sbu t), .int (sni t)])), (28, .inl (false, 6, sce t)), (29, .inl (false, 6, she t)), (30, .inl (false, 6, stu t))]) dX0_copyFrom_31 (by decide) rfl (by omega) (by decide) (cpy_s _ _ _) rfl ?_
      refine E_aload_n dX0_copyFrom_32 rfl ?_
      refine E_get dX0_copyFrom_33 fX0_18 (by decide) rfl rfl ?_
      refine E_iload_n dX0_copyFrom_36 rfl ?_
      refine E_aload_n dX0_copyFrom_37 rfl ?_
      refine E_get dX0_copyFrom_38 fX0_18 (by decide) rfl rfl ?_
      refine E_iload_n dX0_copyFrom_41 rfl ?_
      refine E_ialdN (j := i) dX0_copyFrom_42 (by decide) rfl (by omega) (by decide) ?_
      refine E_iastN (j := i) (f2 := cpy (stu s) (stu t) (i + 1)) (L2 := [(1, .inr (0, [.ref 2, .ref 3, .ref 4, .int (skn s), .int (sdr s), .int (swa s), .int (sbu s), .int (sni s)])), (2, .inl (false, 6, (cpy (sce s) (sce t) (i + 1)))), (3, .inl (false, 6, (cpy (she s) (she t) (i + 1)))), (4, .inl (false, 6, (cpy (stu s) (stu t) (i + 1)))), (27, .inr (0, [.ref 28, .ref 29, .ref 30, .int (skn t), .int (sdr t), .int (swa t), .int (sbu t), .int (sni t)])), (28, .inl (false, 6, sce t)), (29, .inl (false, 6, she t)), (30, .inl (false, 6, stu t))]) dX0_copyFrom_43 (by decide) rfl (by omega) (by decide) (cpy_s _ _ _) rfl ?_
      refine E_iinc (y := nI (i + 1)) (l2 := [.ref 1, .ref 27, .int (nI (i + 1))]) dX0_copyFrom_44 rfl (nI_1 _) (by decide) rfl ?_
      refine E_goto (tgt := 2) dX0_copyFrom_47 (by decide) ?_
      exact ih
  have e0 := L2 0 (by decide)
  rw [cpy_0, cpy_0, cpy_0] at e0
  exact e0

set_option maxHeartbeats 4000000 in
set_option maxRecDepth 20000 in
theorem c_copy_11_1 (d : Nat) (s t : CS) (hA : Agr s t) : FC YX0_copyFrom d [.ref 11, .ref 1, .null] [(1, .inr (0, [.ref 2, .ref 3, .ref 4, .int (skn t), .int (sdr t), .int (swa t), .int (sbu t), .int (sni t)])), (2, .inl (false, 6, sce t)), (3, .inl (false, 6, she t)), (4, .inl (false, 6, stu t)), (11, .inr (0, [.ref 12, .ref 13, .ref 14, .int (skn s), .int (sdr s), .int (swa s), .int (sbu s), .int (sni s)])), (12, .inl (false, 6, sce s)), (13, .inl (false, 6, she s)), (14, .inl (false, 6, stu s))] (none) [(1, .inr (0, [.ref 2, .ref 3, .ref 4, .int (skn t), .int (sdr t), .int (swa t), .int (sbu t), .int (sni t)])), (2, .inl (false, 6, sce t)), (3, .inl (false, 6, she t)), (4, .inl (false, 6, stu t)), (11, .inr (0, [.ref 12, .ref 13, .ref 14, .int (skn t), .int (sdr t), .int (swa t), .int (sbu t), .int (sni t)])), (12, .inl (false, 6, sce t)), (13, .inl (false, 6, she t)), (14, .inl (false, 6, stu t))] := by
  intro hp
  refine E_iconst (v := 0) dX0_copyFrom_0 (by decide) ?_
  refine E_istore_n (l2 := [.ref 11, .ref 1, .int 0]) dX0_copyFrom_1 rfl (by decide) rfl ?_
  have L2 : ∀ i, i ≤ 6 → E YX0_copyFrom d 2 [.ref 11, .ref 1, .int (nI i)] [] (hov hp [(1, .inr (0, [.ref 2, .ref 3, .ref 4, .int (skn t), .int (sdr t), .int (swa t), .int (sbu t), .int (sni t)])), (2, .inl (false, 6, sce t)), (3, .inl (false, 6, she t)), (4, .inl (false, 6, stu t)), (11, .inr (0, [.ref 12, .ref 13, .ref 14, .int (skn s), .int (sdr s), .int (swa s), .int (sbu s), .int (sni s)])), (12, .inl (false, 6, (cpy (sce s) (sce t) i))), (13, .inl (false, 6, (cpy (she s) (she t) i))), (14, .inl (false, 6, (cpy (stu s) (stu t) i)))]) (fun v h' => v = none ∧ h' = hov hp [(1, .inr (0, [.ref 2, .ref 3, .ref 4, .int (skn t), .int (sdr t), .int (swa t), .int (sbu t), .int (sni t)])), (2, .inl (false, 6, sce t)), (3, .inl (false, 6, she t)), (4, .inl (false, 6, stu t)), (11, .inr (0, [.ref 12, .ref 13, .ref 14, .int (skn t), .int (sdr t), .int (swa t), .int (sbu t), .int (sni t)])), (12, .inl (false, 6, sce t)), (13, .inl (false, 6, she t)), (14, .inl (false, 6, stu t))]) := by
    refine down 6 ?_ ?_
    · refine E_iload_n dX0_copyFrom_2 rfl ?_
      refine E_bipush (v := 6) dX0_copyFrom_3 (by decide) ?_
      refine E_icmp_ge (tgt := 50) dX0_copyFrom_5 (by decide) (fun _ => ?_) (fun c => absurd (by decide) c)
      refine E_aload_n dX0_copyFrom_50 rfl ?_
      refine E_aload_n dX0_copyFrom_51 rfl ?_
      refine E_get dX0_copyFrom_52 fX0_25 (by decide) rfl rfl ?_
      refine E_puti (fs2 := [.ref 12, .ref 13, .ref 14, .int (skn t), .int (sdr s), .int (swa s), .int (sbu s), .int (sni s)]) (L2 := [(1, .inr (0, [.ref 2, .ref 3, .ref 4, .int (skn t), .int (sdr t), .int (swa t), .int (sbu t), .int (sni t)])), (2, .inl (false, 6, sce t)), (3, .inl (false, 6, she t)), (4, .inl (false, 6, stu t)), (11, .inr (0, [.ref 12, .ref 13, .ref 14, .int (skn t), .int (sdr s), .int (swa s), .int (sbu s), .int (sni s)])), (12, .inl (false, 6, (cpy (sce s) (sce t) 6))), (13, .inl (false, 6, (cpy (she s) (she t) 6))), (14, .inl (false, 6, (cpy (stu s) (stu t) 6)))]) dX0_copyFrom_55 fX0_25 fpX0_3 (by decide) rfl (Nat.le_of_ble_eq_true rfl) rfl rfl ?_
      refine E_aload_n dX0_copyFrom_58 rfl ?_
      refine E_aload_n dX0_copyFrom_59 rfl ?_
      refine E_get dX0_copyFrom_60 fX0_28 (by decide) rfl rfl ?_
      refine E_puti (fs2 := [.ref 12, .ref 13, .ref 14, .int (skn t), .int (sdr t), .int (swa s), .int (sbu s), .int (sni s)]) (L2 := [(1, .inr (0, [.ref 2, .ref 3, .ref 4, .int (skn t), .int (sdr t), .int (swa t), .int (sbu t), .int (sni t)])), (2, .inl (false, 6, sce t)), (3, .inl (false, 6, she t)), (4, .inl (false, 6, stu t)), (11, .inr (0, [.ref 12, .ref 13, .ref 14, .int (skn t), .int (sdr t), .int (swa s), .int (sbu s), .int (sni s)])), (12, .inl (false, 6, (cpy (sce s) (sce t) 6))), (13, .inl (false, 6, (cpy (she s) (she t) 6))), (14, .inl (false, 6, (cpy (stu s) (stu t) 6)))]) dX0_copyFrom_63 fX0_28 fpX0_4 (by decide) rfl (Nat.le_of_ble_eq_true rfl) rfl rfl ?_
      refine E_aload_n dX0_copyFrom_66 rfl ?_
      refine E_aload_n dX0_copyFrom_67 rfl ?_
      refine E_get dX0_copyFrom_68 fX0_31 (by decide) rfl rfl ?_
      refine E_puti (fs2 := [.ref 12, .ref 13, .ref 14, .int (skn t), .int (sdr t), .int (swa t), .int (sbu s), .int (sni s)]) (L2 := [(1, .inr (0, [.ref 2, .ref 3, .ref 4, .int (skn t), .int (sdr t), .int (swa t), .int (sbu t), .int (sni t)])), (2, .inl (false, 6, sce t)), (3, .inl (false, 6, she t)), (4, .inl (false, 6, stu t)), (11, .inr (0, [.ref 12, .ref 13, .ref 14, .int (skn t), .int (sdr t), .int (swa t), .int (sbu s), .int (sni s)])), (12, .inl (false, 6, (cpy (sce s) (sce t) 6))), (13, .inl (false, 6, (cpy (she s) (she t) 6))), (14, .inl (false, 6, (cpy (stu s) (stu t) 6)))]) dX0_copyFrom_71 fX0_31 fpX0_5 (by decide) rfl (Nat.le_of_ble_eq_true rfl) rfl rfl ?_
      refine E_aload_n dX0_copyFrom_74 rfl ?_
      refine E_aload_n dX0_copyFrom_75 rfl ?_
      refine E_get dX0_copyFrom_76 fX0_21 (by decide) rfl rfl ?_
      refine E_puti (fs2 := [.ref 12, .ref 13, .ref 14, .int (skn t), .int (sdr t), .int (swa t), .int (sbu t), .int (sni s)]) (L2 := [(1, .inr (0, [.ref 2, .ref 3, .ref 4, .int (skn t), .int (sdr t), .int (swa t), .int (sbu t), .int (sni t)])), (2, .inl (false, 6, sce t)), (3, .inl (false, 6, she t)), (4, .inl (false, 6, stu t)), (11, .inr (0, [.ref 12, .ref 13, .ref 14, .int (skn t), .int (sdr t), .int (swa t), .int (sbu t), .int (sni s)])), (12, .inl (false, 6, (cpy (sce s) (sce t) 6))), (13, .inl (false, 6, (cpy (she s) (she t) 6))), (14, .inl (false, 6, (cpy (stu s) (stu t) 6)))]) dX0_copyFrom_79 fX0_21 fpX0_6 (by decide) rfl (Nat.le_of_ble_eq_true rfl) rfl rfl ?_
      refine E_aload_n dX0_copyFrom_82 rfl ?_
      refine E_aload_n dX0_copyFrom_83 rfl ?_
      refine E_get dX0_copyFrom_84 fX0_34 (by decide) rfl rfl ?_
      refine E_puti (fs2 := [.ref 12, .ref 13, .ref 14, .int (skn t), .int (sdr t), .int (swa t), .int (sbu t), .int (sni t)]) (L2 := [(1, .inr (0, [.ref 2, .ref 3, .ref 4, .int (skn t), .int (sdr t), .int (swa t), .int (sbu t), .int (sni t)])), (2, .inl (false, 6, sce t)), (3, .inl (false, 6, she t)), (4, .inl (false, 6, stu t)), (11, .inr (0, [.ref 12, .ref 13, .ref 14, .int (skn t), .int (sdr t), .int (swa t), .int (sbu t), .int (sni t)])), (12, .inl (false, 6, (cpy (sce s) (sce t) 6))), (13, .inl (false, 6, (cpy (she s) (she t) 6))), (14, .inl (false, 6, (cpy (stu s) (stu t) 6)))]) dX0_copyFrom_87 fX0_34 fpX0_7 (by decide) rfl (Nat.le_of_ble_eq_true rfl) rfl rfl ?_
      exact E_vretf dX0_copyFrom_90 rfl (by rw [cpy_all hA.1, cpy_all hA.2.1, cpy_all hA.2.2])
    · intro i hi ih
      refine E_iload_n dX0_copyFrom_2 rfl ?_
      refine E_bipush (v := 6) dX0_copyFrom_3 (by decide) ?_
      refine E_icmp_ge (tgt := 50) dX0_copyFrom_5 (by decide) (fun c => absurd c (cI_nle (n := 6) rfl hi (by decide))) (fun _ => ?_)
      refine E_aload_n dX0_copyFrom_8 rfl ?_
      refine E_get dX0_copyFrom_9 fX0_9 (by decide) rfl rfl ?_
      refine E_iload_n dX0_copyFrom_12 rfl ?_
      refine E_aload_n dX0_copyFrom_13 rfl ?_
      refine E_get dX0_copyFrom_14 fX0_9 (by decide) rfl rfl ?_
      refine E_iload_n dX0_copyFrom_17 rfl ?_
      refine E_ialdN (j := i) dX0_copyFrom_18 (by decide) rfl (by omega) (by decide) ?_
      refine E_iastN (j := i) (f2 := cpy (sce s) (sce t) (i + 1)) (L2 := [(1, .inr (0, [.ref 2, .ref 3, .ref 4, .int (skn t), .int (sdr t), .int (swa t), .int (sbu t), .int (sni t)])), (2, .inl (false, 6, sce t)), (3, .inl (false, 6, she t)), (4, .inl (false, 6, stu t)), (11, .inr (0, [.ref 12, .ref 13, .ref 14, .int (skn s), .int (sdr s), .int (swa s), .int (sbu s), .int (sni s)])), (12, .inl (false, 6, (cpy (sce s) (sce t) (i + 1)))), (13, .inl (false, 6, (cpy (she s) (she t) i))), (14, .inl (false, 6, (cpy (stu s) (stu t) i)))]) dX0_copyFrom_19 (by decide) rfl (by omega) (by decide) (cpy_s _ _ _) rfl ?_
      refine E_aload_n dX0_copyFrom_20 rfl ?_
      refine E_get dX0_copyFrom_21 fX0_15 (by decide) rfl rfl ?_
      refine E_iload_n dX0_copyFrom_24 rfl ?_
      refine E_aload_n dX0_copyFrom_25 rfl ?_
      refine E_get dX0_copyFrom_26 fX0_15 (by decide) rfl rfl ?_
      refine E_iload_n dX0_copyFrom_29 rfl ?_
      refine E_ialdN (j := i) dX0_copyFrom_30 (by decide) rfl (by omega) (by decide) ?_
      refine E_iastN (j := i) (f2 := cpy (she s) (she t) (i + 1)) (L2 := [(1, .inr (0, [.ref 2, .ref 3, .ref 4, .int (skn t), .int (sdr t), .int (swa t), .int (sbu t), .int (sni t)])), (2, .inl (false, 6, sce t)), (3, .inl (false, 6, she t)), (4, .inl (false, 6, stu t)), (11, .inr (0, [.ref 12, .ref 13, .ref 14, .int (skn s), .int (sdr s), .int (swa s), .int (sbu s), .int (sni s)])), (12, .inl (false, 6, (cpy (sce s) (sce t) (i + 1)))), (13, .inl (false, 6, (cpy (she s) (she t) (i + 1)))), (14, .inl (false, 6, (cpy (stu s) (stu t) i)))]) dX0_copyFrom_31 (by decide) rfl (by omega) (by decide) (cpy_s _ _ _) rfl ?_
      refine E_aload_n dX0_copyFrom_32 rfl ?_
      refine E_get dX0_copyFrom_33 fX0_18 (by decide) rfl rfl ?_
      refine E_iload_n dX0_copyFrom_36 rfl ?_
      refine E_aload_n dX0_copyFrom_37 rfl ?_
      refine E_get dX0_copyFrom_38 fX0_18 (by decide) rfl rfl ?_
      refine E_iload_n dX0_copyFrom_41 rfl ?_
      refine E_ialdN (j := i) dX0_copyFrom_42 (by decide) rfl (by omega) (by decide) ?_
      refine E_iastN (j := i) (f2 := cpy (stu s) (stu t) (i + 1)) (L2 := [(1, .inr (0, [.ref 2, .ref 3, .ref 4, .int (skn t), .int (sdr t), .int (swa t), .int (sbu t), .int (sni t)])), (2, .inl (false, 6, sce t)), (3, .inl (false, 6, she t)), (4, .inl (false, 6, stu t)), (11, .inr (0, [.ref 12, .ref 13, .ref 14, .int (skn s), .int (sdr s), .int (swa s), .int (sbu s), .int (sni s)])), (12, .inl (false, 6, (cpy (sce s) (sce t) (i + 1)))), (13, .inl (false, 6, (cpy (she s) (she t) (i + 1)))), (14, .inl (false, 6, (cpy (stu s) (stu t) (i + 1))))]) dX0_copyFrom_43 (by decide) rfl (by omega) (by decide) (cpy_s _ _ _) rfl ?_
      refine E_iinc (y := nI (i + 1)) (l2 := [.ref 11, .ref 1, .int (nI (i + 1))]) dX0_copyFrom_44 rfl (nI_1 _) (by decide) rfl ?_
      refine E_goto (tgt := 2) dX0_copyFrom_47 (by decide) ?_
      exact ih
  have e0 := L2 0 (by decide)
  rw [cpy_0, cpy_0, cpy_0] at e0
  exact e0

set_option maxHeartbeats 4000000 in
set_option maxRecDepth 20000 in
theorem c_copy_19_1 (d : Nat) (s t : CS) (hA : Agr s t) : FC YX0_copyFrom d [.ref 19, .ref 1, .null] [(1, .inr (0, [.ref 2, .ref 3, .ref 4, .int (skn t), .int (sdr t), .int (swa t), .int (sbu t), .int (sni t)])), (2, .inl (false, 6, sce t)), (3, .inl (false, 6, she t)), (4, .inl (false, 6, stu t)), (19, .inr (0, [.ref 20, .ref 21, .ref 22, .int (skn s), .int (sdr s), .int (swa s), .int (sbu s), .int (sni s)])), (20, .inl (false, 6, sce s)), (21, .inl (false, 6, she s)), (22, .inl (false, 6, stu s))] (none) [(1, .inr (0, [.ref 2, .ref 3, .ref 4, .int (skn t), .int (sdr t), .int (swa t), .int (sbu t), .int (sni t)])), (2, .inl (false, 6, sce t)), (3, .inl (false, 6, she t)), (4, .inl (false, 6, stu t)), (19, .inr (0, [.ref 20, .ref 21, .ref 22, .int (skn t), .int (sdr t), .int (swa t), .int (sbu t), .int (sni t)])), (20, .inl (false, 6, sce t)), (21, .inl (false, 6, she t)), (22, .inl (false, 6, stu t))] := by
  intro hp
  refine E_iconst (v := 0) dX0_copyFrom_0 (by decide) ?_
  refine E_istore_n (l2 := [.ref 19, .ref 1, .int 0]) dX0_copyFrom_1 rfl (by decide) rfl ?_
  have L2 : ∀ i, i ≤ 6 → E YX0_copyFrom d 2 [.ref 19, .ref 1, .int (nI i)] [] (hov hp [(1, .inr (0, [.ref 2, .ref 3, .ref 4, .int (skn t), .int (sdr t), .int (swa t), .int (sbu t), .int (sni t)])), (2, .inl (false, 6, sce t)), (3, .inl (false, 6, she t)), (4, .inl (false, 6, stu t)), (19, .inr (0, [.ref 20, .ref 21, .ref 22, .int (skn s), .int (sdr s), .int (swa s), .int (sbu s), .int (sni s)])), (20, .inl (false, 6, (cpy (sce s) (sce t) i))), (21, .inl (false, 6, (cpy (she s) (she t) i))), (22, .inl (false, 6, (cpy (stu s) (stu t) i)))]) (fun v h' => v = none ∧ h' = hov hp [(1, .inr (0, [.ref 2, .ref 3, .ref 4, .int (skn t), .int (sdr t), .int (swa t), .int (sbu t), .int (sni t)])), (2, .inl (false, 6, sce t)), (3, .inl (false, 6, she t)), (4, .inl (false, 6, stu t)), (19, .inr (0, [.ref 20, .ref 21, .ref 22, .int (skn t), .int (sdr t), .int (swa t), .int (sbu t), .int (sni t)])), (20, .inl (false, 6, sce t)), (21, .inl (false, 6, she t)), (22, .inl (false, 6, stu t))]) := by
    refine down 6 ?_ ?_
    · refine E_iload_n dX0_copyFrom_2 rfl ?_
      refine E_bipush (v := 6) dX0_copyFrom_3 (by decide) ?_
      refine E_icmp_ge (tgt := 50) dX0_copyFrom_5 (by decide) (fun _ => ?_) (fun c => absurd (by decide) c)
      refine E_aload_n dX0_copyFrom_50 rfl ?_
      refine E_aload_n dX0_copyFrom_51 rfl ?_
      refine E_get dX0_copyFrom_52 fX0_25 (by decide) rfl rfl ?_
      refine E_puti (fs2 := [.ref 20, .ref 21, .ref 22, .int (skn t), .int (sdr s), .int (swa s), .int (sbu s), .int (sni s)]) (L2 := [(1, .inr (0, [.ref 2, .ref 3, .ref 4, .int (skn t), .int (sdr t), .int (swa t), .int (sbu t), .int (sni t)])), (2, .inl (false, 6, sce t)), (3, .inl (false, 6, she t)), (4, .inl (false, 6, stu t)), (19, .inr (0, [.ref 20, .ref 21, .ref 22, .int (skn t), .int (sdr s), .int (swa s), .int (sbu s), .int (sni s)])), (20, .inl (false, 6, (cpy (sce s) (sce t) 6))), (21, .inl (false, 6, (cpy (she s) (she t) 6))), (22, .inl (false, 6, (cpy (stu s) (stu t) 6)))]) dX0_copyFrom_55 fX0_25 fpX0_3 (by decide) rfl (Nat.le_of_ble_eq_true rfl) rfl rfl ?_
      refine E_aload_n dX0_copyFrom_58 rfl ?_
      refine E_aload_n dX0_copyFrom_59 rfl ?_
      refine E_get dX0_copyFrom_60 fX0_28 (by decide) rfl rfl ?_
      refine E_puti (fs2 := [.ref 20, .ref 21, .ref 22, .int (skn t), .int (sdr t), .int (swa s), .int (sbu s), .int (sni s)]) (L2 := [(1, .inr (0, [.ref 2, .ref 3, .ref 4, .int (skn t), .int (sdr t), .int (swa t), .int (sbu t), .int (sni t)])), (2, .inl (false, 6, sce t)), (3, .inl (false, 6, she t)), (4, .inl (false, 6, stu t)), (19, .inr (0, [.ref 20, .ref 21, .ref 22, .int (skn t), .int (sdr t), .int (swa s), .int (sbu s), .int (sni s)])), (20, .inl (false, 6, (cpy (sce s) (sce t) 6))), (21, .inl (false, 6, (cpy (she s) (she t) 6))), (22, .inl (false, 6, (cpy (stu s) (stu t) 6)))]) dX0_copyFrom_63 fX0_28 fpX0_4 (by decide) rfl (Nat.le_of_ble_eq_true rfl) rfl rfl ?_
      refine E_aload_n dX0_copyFrom_66 rfl ?_
      refine E_aload_n dX0_copyFrom_67 rfl ?_
      refine E_get dX0_copyFrom_68 fX0_31 (by decide) rfl rfl ?_
      refine E_puti (fs2 := [.ref 20, .ref 21, .ref 22, .int (skn t), .int (sdr t), .int (swa t), .int (sbu s), .int (sni s)]) (L2 := [(1, .inr (0, [.ref 2, .ref 3, .ref 4, .int (skn t), .int (sdr t), .int (swa t), .int (sbu t), .int (sni t)])), (2, .inl (false, 6, sce t)), (3, .inl (false, 6, she t)), (4, .inl (false, 6, stu t)), (19, .inr (0, [.ref 20, .ref 21, .ref 22, .int (skn t), .int (sdr t), .int (swa t), .int (sbu s), .int (sni s)])), (20, .inl (false, 6, (cpy (sce s) (sce t) 6))), (21, .inl (false, 6, (cpy (she s) (she t) 6))), (22, .inl (false, 6, (cpy (stu s) (stu t) 6)))]) dX0_copyFrom_71 fX0_31 fpX0_5 (by decide) rfl (Nat.le_of_ble_eq_true rfl) rfl rfl ?_
      refine E_aload_n dX0_copyFrom_74 rfl ?_
      refine E_aload_n dX0_copyFrom_75 rfl ?_
      refine E_get dX0_copyFrom_76 fX0_21 (by decide) rfl rfl ?_
      refine E_puti (fs2 := [.ref 20, .ref 21, .ref 22, .int (skn t), .int (sdr t), .int (swa t), .int (sbu t), .int (sni s)]) (L2 := [(1, .inr (0, [.ref 2, .ref 3, .ref 4, .int (skn t), .int (sdr t), .int (swa t), .int (sbu t), .int (sni t)])), (2, .inl (false, 6, sce t)), (3, .inl (false, 6, she t)), (4, .inl (false, 6, stu t)), (19, .inr (0, [.ref 20, .ref 21, .ref 22, .int (skn t), .int (sdr t), .int (swa t), .int (sbu t), .int (sni s)])), (20, .inl (false, 6, (cpy (sce s) (sce t) 6))), (21, .inl (false, 6, (cpy (she s) (she t) 6))), (22, .inl (false, 6, (cpy (stu s) (stu t) 6)))]) dX0_copyFrom_79 fX0_21 fpX0_6 (by decide) rfl (Nat.le_of_ble_eq_true rfl) rfl rfl ?_
      refine E_aload_n dX0_copyFrom_82 rfl ?_
      refine E_aload_n dX0_copyFrom_83 rfl ?_
      refine E_get dX0_copyFrom_84 fX0_34 (by decide) rfl rfl ?_
      refine E_puti (fs2 := [.ref 20, .ref 21, .ref 22, .int (skn t), .int (sdr t), .int (swa t), .int (sbu t), .int (sni t)]) (L2 := [(1, .inr (0, [.ref 2, .ref 3, .ref 4, .int (skn t), .int (sdr t), .int (swa t), .int (sbu t), .int (sni t)])), (2, .inl (false, 6, sce t)), (3, .inl (false, 6, she t)), (4, .inl (false, 6, stu t)), (19, .inr (0, [.ref 20, .ref 21, .ref 22, .int (skn t), .int (sdr t), .int (swa t), .int (sbu t), .int (sni t)])), (20, .inl (false, 6, (cpy (sce s) (sce t) 6))), (21, .inl (false, 6, (cpy (she s) (she t) 6))), (22, .inl (false, 6, (cpy (stu s) (stu t) 6)))]) dX0_copyFrom_87 fX0_34 fpX0_7 (by decide) rfl (Nat.le_of_ble_eq_true rfl) rfl rfl ?_
      exact E_vretf dX0_copyFrom_90 rfl (by rw [cpy_all hA.1, cpy_all hA.2.1, cpy_all hA.2.2])
    · intro i hi ih
      refine E_iload_n dX0_copyFrom_2 rfl ?_
      refine E_bipush (v := 6) dX0_copyFrom_3 (by decide) ?_
      refine E_icmp_ge (tgt := 50) dX0_copyFrom_5 (by decide) (fun c => absurd c (cI_nle (n := 6) rfl hi (by decide))) (fun _ => ?_)
      refine E_aload_n dX0_copyFrom_8 rfl ?_
      refine E_get dX0_copyFrom_9 fX0_9 (by decide) rfl rfl ?_
      refine E_iload_n dX0_copyFrom_12 rfl ?_
      refine E_aload_n dX0_copyFrom_13 rfl ?_
      refine E_get dX0_copyFrom_14 fX0_9 (by decide) rfl rfl ?_
      refine E_iload_n dX0_copyFrom_17 rfl ?_
      refine E_ialdN (j := i) dX0_copyFrom_18 (by decide) rfl (by omega) (by decide) ?_
      refine E_iastN (j := i) (f2 := cpy (sce s) (sce t) (i + 1)) (L2 := [(1, .inr (0, [.ref 2, .ref 3, .ref 4, .int (skn t), .int (sdr t), .int (swa t), .int (sbu t), .int (sni t)])), (2, .inl (false, 6, sce t)), (3, .inl (false, 6, she t)), (4, .inl (false, 6, stu t)), (19, .inr (0, [.ref 20, .ref 21, .ref 22, .int (skn s), .int (sdr s), .int (swa s), .int (sbu s), .int (sni s)])), (20, .inl (false, 6, (cpy (sce s) (sce t) (i + 1)))), (21, .inl (false, 6, (cpy (she s) (she t) i))), (22, .inl (false, 6, (cpy (stu s) (stu t) i)))]) dX0_copyFrom_19 (by decide) rfl (by omega) (by decide) (cpy_s _ _ _) rfl ?_
      refine E_aload_n dX0_copyFrom_20 rfl ?_
      refine E_get dX0_copyFrom_21 fX0_15 (by decide) rfl rfl ?_
      refine E_iload_n dX0_copyFrom_24 rfl ?_
      refine E_aload_n dX0_copyFrom_25 rfl ?_
      refine E_get dX0_copyFrom_26 fX0_15 (by decide) rfl rfl ?_
      refine E_iload_n dX0_copyFrom_29 rfl ?_
      refine E_ialdN (j := i) dX0_copyFrom_30 (by decide) rfl (by omega) (by decide) ?_
      refine E_iastN (j := i) (f2 := cpy (she s) (she t) (i + 1)) (L2 := [(1, .inr (0, [.ref 2, .ref 3, .ref 4, .int (skn t), .int (sdr t), .int (swa t), .int (sbu t), .int (sni t)])), (2, .inl (false, 6, sce t)), (3, .inl (false, 6, she t)), (4, .inl (false, 6, stu t)), (19, .inr (0, [.ref 20, .ref 21, .ref 22, .int (skn s), .int (sdr s), .int (swa s), .int (sbu s), .int (sni s)])), (20, .inl (false, 6, (cpy (sce s) (sce t) (i + 1)))), (21, .inl (false, 6, (cpy (she s) (she t) (i + 1)))), (22, .inl (false, 6, (cpy (stu s) (stu t) i)))]) dX0_copyFrom_31 (by decide) rfl (by omega) (by decide) (cpy_s _ _ _) rfl ?_
      refine E_aload_n dX0_copyFrom_32 rfl ?_
      refine E_get dX0_copyFrom_33 fX0_18 (by decide) rfl rfl ?_
      refine E_iload_n dX0_copyFrom_36 rfl ?_
      refine E_aload_n dX0_copyFrom_37 rfl ?_
      refine E_get dX0_copyFrom_38 fX0_18 (by decide) rfl rfl ?_
      refine E_iload_n dX0_copyFrom_41 rfl ?_
      refine E_ialdN (j := i) dX0_copyFrom_42 (by decide) rfl (by omega) (by decide) ?_
      refine E_iastN (j := i) (f2 := cpy (stu s) (stu t) (i + 1)) (L2 := [(1, .inr (0, [.ref 2, .ref 3, .ref 4, .int (skn t), .int (sdr t), .int (swa t), .int (sbu t), .int (sni t)])), (2, .inl (false, 6, sce t)), (3, .inl (false, 6, she t)), (4, .inl (false, 6, stu t)), (19, .inr (0, [.ref 20, .ref 21, .ref 22, .int (skn s), .int (sdr s), .int (swa s), .int (sbu s), .int (sni s)])), (20, .inl (false, 6, (cpy (sce s) (sce t) (i + 1)))), (21, .inl (false, 6, (cpy (she s) (she t) (i + 1)))), (22, .inl (false, 6, (cpy (stu s) (stu t) (i + 1))))]) dX0_copyFrom_43 (by decide) rfl (by omega) (by decide) (cpy_s _ _ _) rfl ?_
      refine E_iinc (y := nI (i + 1)) (l2 := [.ref 19, .ref 1, .int (nI (i + 1))]) dX0_copyFrom_44 rfl (nI_1 _) (by decide) rfl ?_
      refine E_goto (tgt := 2) dX0_copyFrom_47 (by decide) ?_
      exact ih
  have e0 := L2 0 (by decide)
  rw [cpy_0, cpy_0, cpy_0] at e0
  exact e0

set_option maxHeartbeats 4000000 in
set_option maxRecDepth 20000 in
theorem c_copy_1_11 (d : Nat) (s t : CS) (hA : Agr s t) : FC YX0_copyFrom d [.ref 1, .ref 11, .null] [(1, .inr (0, [.ref 2, .ref 3, .ref 4, .int (skn s), .int (sdr s), .int (swa s), .int (sbu s), .int (sni s)])), (2, .inl (false, 6, sce s)), (3, .inl (false, 6, she s)), (4, .inl (false, 6, stu s)), (11, .inr (0, [.ref 12, .ref 13, .ref 14, .int (skn t), .int (sdr t), .int (swa t), .int (sbu t), .int (sni t)])), (12, .inl (false, 6, sce t)), (13, .inl (false, 6, she t)), (14, .inl (false, 6, stu t))] (none) [(1, .inr (0, [.ref 2, .ref 3, .ref 4, .int (skn t), .int (sdr t), .int (swa t), .int (sbu t), .int (sni t)])), (2, .inl (false, 6, sce t)), (3, .inl (false, 6, she t)), (4, .inl (false, 6, stu t)), (11, .inr (0, [.ref 12, .ref 13, .ref 14, .int (skn t), .int (sdr t), .int (swa t), .int (sbu t), .int (sni t)])), (12, .inl (false, 6, sce t)), (13, .inl (false, 6, she t)), (14, .inl (false, 6, stu t))] := by
  intro hp
  refine E_iconst (v := 0) dX0_copyFrom_0 (by decide) ?_
  refine E_istore_n (l2 := [.ref 1, .ref 11, .int 0]) dX0_copyFrom_1 rfl (by decide) rfl ?_
  have L2 : ∀ i, i ≤ 6 → E YX0_copyFrom d 2 [.ref 1, .ref 11, .int (nI i)] [] (hov hp [(1, .inr (0, [.ref 2, .ref 3, .ref 4, .int (skn s), .int (sdr s), .int (swa s), .int (sbu s), .int (sni s)])), (2, .inl (false, 6, (cpy (sce s) (sce t) i))), (3, .inl (false, 6, (cpy (she s) (she t) i))), (4, .inl (false, 6, (cpy (stu s) (stu t) i))), (11, .inr (0, [.ref 12, .ref 13, .ref 14, .int (skn t), .int (sdr t), .int (swa t), .int (sbu t), .int (sni t)])), (12, .inl (false, 6, sce t)), (13, .inl (false, 6, she t)), (14, .inl (false, 6, stu t))]) (fun v h' => v = none ∧ h' = hov hp [(1, .inr (0, [.ref 2, .ref 3, .ref 4, .int (skn t), .int (sdr t), .int (swa t), .int (sbu t), .int (sni t)])), (2, .inl (false, 6, sce t)), (3, .inl (false, 6, she t)), (4, .inl (false, 6, stu t)), (11, .inr (0, [.ref 12, .ref 13, .ref 14, .int (skn t), .int (sdr t), .int (swa t), .int (sbu t), .int (sni t)])), (12, .inl (false, 6, sce t)), (13, .inl (false, 6, she t)), (14, .inl (false, 6, stu t))]) := by
    refine down 6 ?_ ?_
    · refine E_iload_n dX0_copyFrom_2 rfl ?_
      refine E_bipush (v := 6) dX0_copyFrom_3 (by decide) ?_
      refine E_icmp_ge (tgt := 50) dX0_copyFrom_5 (by decide) (fun _ => ?_) (fun c => absurd (by decide) c)
      refine E_aload_n dX0_copyFrom_50 rfl ?_
      refine E_aload_n dX0_copyFrom_51 rfl ?_
      refine E_get dX0_copyFrom_52 fX0_25 (by decide) rfl rfl ?_
      refine E_puti (fs2 := [.ref 2, .ref 3, .ref 4, .int (skn t), .int (sdr s), .int (swa s), .int (sbu s), .int (sni s)]) (L2 := [(1, .inr (0, [.ref 2, .ref 3, .ref 4, .int (skn t), .int (sdr s), .int (swa s), .int (sbu s), .int (sni s)])), (2, .inl (false, 6, (cpy (sce s) (sce t) 6))), (3, .inl (false, 6, (cpy (she s) (she t) 6))), (4, .inl (false, 6, (cpy (stu s) (stu t) 6))), (11, .inr (0, [.ref 12, .ref 13, .ref 14, .int (skn t), .int (sdr t), .int (swa t), .int (sbu t), .int (sni t)])), (12, .inl (false, 6, sce t)), (13, .inl (false, 6, she t)), (14, .inl (false, 6, stu t))]) dX0_copyFrom_55 fX0_25 fpX0_3 (by decide) rfl (Nat.le_of_ble_eq_true rfl) rfl rfl ?_
      refine E_aload_n dX0_copyFrom_58 rfl ?_
      refine E_aload_n dX0_copyFrom_59 rfl ?_
      refine E_get dX0_copyFrom_60 fX0_28 (by decide) rfl rfl ?_
      refine E_puti (fs2 := [.ref 2, .ref 3, .ref 4, .int (skn t), .int (sdr t), .int (swa s), .int (sbu s), .int (sni s)]) (L2 := [(1, .inr (0, [.ref 2, .ref 3, .ref 4, .int (skn t), .int (sdr t), .int (swa s), .int (sbu s), .int (sni s)])), (2, .inl (false, 6, (cpy (sce s) (sce t) 6))), (3, .inl (false, 6, (cpy (she s) (she t) 6))), (4, .inl (false, 6, (cpy (stu s) (stu t) 6))), (11, .inr (0, [.ref 12, .ref 13, .ref 14, .int (skn t), .int (sdr t), .int (swa t), .int (sbu t), .int (sni t)])), (12, .inl (false, 6, sce t)), (13, .inl (false, 6, she t)), (14, .inl (false, 6, stu t))]) dX0_copyFrom_63 fX0_28 fpX0_4 (by decide) rfl (Nat.le_of_ble_eq_true rfl) rfl rfl ?_
      refine E_aload_n dX0_copyFrom_66 rfl ?_
      refine E_aload_n dX0_copyFrom_67 rfl ?_
      refine E_get dX0_copyFrom_68 fX0_31 (by decide) rfl rfl ?_
      refine E_puti (fs2 := [.ref 2, .ref 3, .ref 4, .int (skn t), .int (sdr t), .int (swa t), .int (sbu s), .int (sni s)]) (L2 := [(1, .inr (0, [.ref 2, .ref 3, .ref 4, .int (skn t), .int (sdr t), .int (swa t), .int (sbu s), .int (sni s)])), (2, .inl (false, 6, (cpy (sce s) (sce t) 6))), (3, .inl (false, 6, (cpy (she s) (she t) 6))), (4, .inl (false, 6, (cpy (stu s) (stu t) 6))), (11, .inr (0, [.ref 12, .ref 13, .ref 14, .int (skn t), .int (sdr t), .int (swa t), .int (sbu t), .int (sni t)])), (12, .inl (false, 6, sce t)), (13, .inl (false, 6, she t)), (14, .inl (false, 6, stu t))]) dX0_copyFrom_71 fX0_31 fpX0_5 (by decide) rfl (Nat.le_of_ble_eq_true rfl) rfl rfl ?_
      refine E_aload_n dX0_copyFrom_74 rfl ?_
      refine E_aload_n dX0_copyFrom_75 rfl ?_
      refine E_get dX0_copyFrom_76 fX0_21 (by decide) rfl rfl ?_
      refine E_puti (fs2 := [.ref 2, .ref 3, .ref 4, .int (skn t), .int (sdr t), .int (swa t), .int (sbu t), .int (sni s)]) (L2 := [(1, .inr (0, [.ref 2, .ref 3, .ref 4, .int (skn t), .int (sdr t), .int (swa t), .int (sbu t), .int (sni s)])), (2, .inl (false, 6, (cpy (sce s) (sce t) 6))), (3, .inl (false, 6, (cpy (she s) (she t) 6))), (4, .inl (false, 6, (cpy (stu s) (stu t) 6))), (11, .inr (0, [.ref 12, .ref 13, .ref 14, .int (skn t), .int (sdr t), .int (swa t), .int (sbu t), .int (sni t)])), (12, .inl (false, 6, sce t)), (13, .inl (false, 6, she t)), (14, .inl (false, 6, stu t))]) dX0_copyFrom_79 fX0_21 fpX0_6 (by decide) rfl (Nat.le_of_ble_eq_true rfl) rfl rfl ?_
      refine E_aload_n dX0_copyFrom_82 rfl ?_
      refine E_aload_n dX0_copyFrom_83 rfl ?_
      refine E_get dX0_copyFrom_84 fX0_34 (by decide) rfl rfl ?_
      refine E_puti (fs2 := [.ref 2, .ref 3, .ref 4, .int (skn t), .int (sdr t), .int (swa t), .int (sbu t), .int (sni t)]) (L2 := [(1, .inr (0, [.ref 2, .ref 3, .ref 4, .int (skn t), .int (sdr t), .int (swa t), .int (sbu t), .int (sni t)])), (2, .inl (false, 6, (cpy (sce s) (sce t) 6))), (3, .inl (false, 6, (cpy (she s) (she t) 6))), (4, .inl (false, 6, (cpy (stu s) (stu t) 6))), (11, .inr (0, [.ref 12, .ref 13, .ref 14, .int (skn t), .int (sdr t), .int (swa t), .int (sbu t), .int (sni t)])), (12, .inl (false, 6, sce t)), (13, .inl (false, 6, she t)), (14, .inl (false, 6, stu t))]) dX0_copyFrom_87 fX0_34 fpX0_7 (by decide) rfl (Nat.le_of_ble_eq_true rfl) rfl rfl ?_
      exact E_vretf dX0_copyFrom_90 rfl (by rw [cpy_all hA.1, cpy_all hA.2.1, cpy_all hA.2.2])
    · intro i hi ih
      refine E_iload_n dX0_copyFrom_2 rfl ?_
      refine E_bipush (v := 6) dX0_copyFrom_3 (by decide) ?_
      refine E_icmp_ge (tgt := 50) dX0_copyFrom_5 (by decide) (fun c => absurd c (cI_nle (n := 6) rfl hi (by decide))) (fun _ => ?_)
      refine E_aload_n dX0_copyFrom_8 rfl ?_
      refine E_get dX0_copyFrom_9 fX0_9 (by decide) rfl rfl ?_
      refine E_iload_n dX0_copyFrom_12 rfl ?_
      refine E_aload_n dX0_copyFrom_13 rfl ?_
      refine E_get dX0_copyFrom_14 fX0_9 (by decide) rfl rfl ?_
      refine E_iload_n dX0_copyFrom_17 rfl ?_
      refine E_ialdN (j := i) dX0_copyFrom_18 (by decide) rfl (by omega) (by decide) ?_
      refine E_iastN (j := i) (f2 := cpy (sce s) (sce t) (i + 1)) (L2 := [(1, .inr (0, [.ref 2, .ref 3, .ref 4, .int (skn s), .int (sdr s), .int (swa s), .int (sbu s), .int (sni s)])), (2, .inl (false, 6, (cpy (sce s) (sce t) (i + 1)))), (3, .inl (false, 6, (cpy (she s) (she t) i))), (4, .inl (false, 6, (cpy (stu s) (stu t) i))), (11, .inr (0, [.ref 12, .ref 13, .ref 14, .int (skn t), .int (sdr t), .int (swa t), .int (sbu t), .int (sni t)])), (12, .inl (false, 6, sce t)), (13, .inl (false, 6, she t)), (14, .inl (false, 6, stu t))]) dX0_copyFrom_19 (by decide) rfl (by omega) (by decide) (cpy_s _ _ _) rfl ?_
      refine E_aload_n dX0_copyFrom_20 rfl ?_
      refine E_get dX0_copyFrom_21 fX0_15 (by decide) rfl rfl ?_
      refine E_iload_n dX0_copyFrom_24 rfl ?_
      refine E_aload_n dX0_copyFrom_25 rfl ?_
      refine E_get dX0_copyFrom_26 fX0_15 (by decide) rfl rfl ?_
      refine E_iload_n dX0_copyFrom_29 rfl ?_
      refine E_ialdN (j := i) dX0_copyFrom_30 (by decide) rfl (by omega) (by decide) ?_
      refine E_iastN (j := i) (f2 := cpy (she s) (she t) (i + 1)) (L2 := [(1, .inr (0, [.ref 2, .ref 3, .ref 4, .int (skn s), .int (sdr s), .int (swa s), .int (sbu s), .int (sni s)])), (2, .inl (false, 6, (cpy (sce s) (sce t) (i + 1)))), (3, .inl (false, 6, (cpy (she s) (she t) (i + 1)))), (4, .inl (false, 6, (cpy (stu s) (stu t) i))), (11, .inr (0, [.ref 12, .ref 13, .ref 14, .int (skn t), .int (sdr t), .int (swa t), .int (sbu t), .int (sni t)])), (12, .inl (false, 6, sce t)), (13, .inl (false, 6, she t)), (14, .inl (false, 6, stu t))]) dX0_copyFrom_31 (by decide) rfl (by omega) (by decide) (cpy_s _ _ _) rfl ?_
      refine E_aload_n dX0_copyFrom_32 rfl ?_
      refine E_get dX0_copyFrom_33 fX0_18 (by decide) rfl rfl ?_
      refine E_iload_n dX0_copyFrom_36 rfl ?_
      refine E_aload_n dX0_copyFrom_37 rfl ?_
      refine E_get dX0_copyFrom_38 fX0_18 (by decide) rfl rfl ?_
      refine E_iload_n dX0_copyFrom_41 rfl ?_
      refine E_ialdN (j := i) dX0_copyFrom_42 (by decide) rfl (by omega) (by decide) ?_
      refine E_iastN (j := i) (f2 := cpy (stu s) (stu t) (i + 1)) (L2 := [(1, .inr (0, [.ref 2, .ref 3, .ref 4, .int (skn s), .int (sdr s), .int (swa s), .int (sbu s), .int (sni s)])), (2, .inl (false, 6, (cpy (sce s) (sce t) (i + 1)))), (3, .inl (false, 6, (cpy (she s) (she t) (i + 1)))), (4, .inl (false, 6, (cpy (stu s) (stu t) (i + 1)))), (11, .inr (0, [.ref 12, .ref 13, .ref 14, .int (skn t), .int (sdr t), .int (swa t), .int (sbu t), .int (sni t)])), (12, .inl (false, 6, sce t)), (13, .inl (false, 6, she t)), (14, .inl (false, 6, stu t))]) dX0_copyFrom_43 (by decide) rfl (by omega) (by decide) (cpy_s _ _ _) rfl ?_
      refine E_iinc (y := nI (i + 1)) (l2 := [.ref 1, .ref 11, .int (nI (i + 1))]) dX0_copyFrom_44 rfl (nI_1 _) (by decide) rfl ?_
      refine E_goto (tgt := 2) dX0_copyFrom_47 (by decide) ?_
      exact ih
  have e0 := L2 0 (by decide)
  rw [cpy_0, cpy_0, cpy_0] at e0
  exact e0

set_option maxHeartbeats 4000000 in
set_option maxRecDepth 20000 in
theorem c_copy_1_19 (d : Nat) (s t : CS) (hA : Agr s t) : FC YX0_copyFrom d [.ref 1, .ref 19, .null] [(1, .inr (0, [.ref 2, .ref 3, .ref 4, .int (skn s), .int (sdr s), .int (swa s), .int (sbu s), .int (sni s)])), (2, .inl (false, 6, sce s)), (3, .inl (false, 6, she s)), (4, .inl (false, 6, stu s)), (19, .inr (0, [.ref 20, .ref 21, .ref 22, .int (skn t), .int (sdr t), .int (swa t), .int (sbu t), .int (sni t)])), (20, .inl (false, 6, sce t)), (21, .inl (false, 6, she t)), (22, .inl (false, 6, stu t))] (none) [(1, .inr (0, [.ref 2, .ref 3, .ref 4, .int (skn t), .int (sdr t), .int (swa t), .int (sbu t), .int (sni t)])), (2, .inl (false, 6, sce t)), (3, .inl (false, 6, she t)), (4, .inl (false, 6, stu t)), (19, .inr (0, [.ref 20, .ref 21, .ref 22, .int (skn t), .int (sdr t), .int (swa t), .int (sbu t), .int (sni t)])), (20, .inl (false, 6, sce t)), (21, .inl (false, 6, she t)), (22, .inl (false, 6, stu t))] := by
  intro hp
  refine E_iconst (v := 0) dX0_copyFrom_0 (by decide) ?_
  refine E_istore_n (l2 := [.ref 1, .ref 19, .int 0]) dX0_copyFrom_1 rfl (by decide) rfl ?_
  have L2 : ∀ i, i ≤ 6 → E YX0_copyFrom d 2 [.ref 1, .ref 19, .int (nI i)] [] (hov hp [(1, .inr (0, [.ref 2, .ref 3, .ref 4, .int (skn s), .int (sdr s), .int (swa s), .int (sbu s), .int (sni s)])), (2, .inl (false, 6, (cpy (sce s) (sce t) i))), (3, .inl (false, 6, (cpy (she s) (she t) i))), (4, .inl (false, 6, (cpy (stu s) (stu t) i))), (19, .inr (0, [.ref 20, .ref 21, .ref 22, .int (skn t), .int (sdr t), .int (swa t), .int (sbu t), .int (sni t)])), (20, .inl (false, 6, sce t)), (21, .inl (false, 6, she t)), (22, .inl (false, 6, stu t))]) (fun v h' => v = none ∧ h' = hov hp [(1, .inr (0, [.ref 2, .ref 3, .ref 4, .int (skn t), .int (sdr t), .int (swa t), .int (sbu t), .int (sni t)])), (2, .inl (false, 6, sce t)), (3, .inl (false, 6, she t)), (4, .inl (false, 6, stu t)), (19, .inr (0, [.ref 20, .ref 21, .ref 22, .int (skn t), .int (sdr t), .int (swa t), .int (sbu t), .int (sni t)])), (20, .inl (false, 6, sce t)), (21, .inl (false, 6, she t)), (22, .inl (false, 6, stu t))]) := by
    refine down 6 ?_ ?_
    · refine E_iload_n dX0_copyFrom_2 rfl ?_
      refine E_bipush (v := 6) dX0_copyFrom_3 (by decide) ?_
      refine E_icmp_ge (tgt := 50) dX0_copyFrom_5 (by decide) (fun _ => ?_) (fun c => absurd (by decide) c)
      refine E_aload_n dX0_copyFrom_50 rfl ?_
      refine E_aload_n dX0_copyFrom_51 rfl ?_
      refine E_get dX0_copyFrom_52 fX0_25 (by decide) rfl rfl ?_
      refine E_puti (fs2 := [.ref 2, .ref 3, .ref 4, .int (skn t), .int (sdr s), .int (swa s), .int (sbu s), .int (sni s)]) (L2 := [(1, .inr (0, [.ref 2, .ref 3, .ref 4, .int (skn t), .int (sdr s), .int (swa s), .int (sbu s), .int (sni s)])), (2, .inl (false, 6, (cpy (sce s) (sce t) 6))), (3, .inl (false, 6, (cpy (she s) (she t) 6))), (4, .inl (false, 6, (cpy (stu s) (stu t) 6))), (19, .inr (0, [.ref 20, .ref 21, .ref 22, .int (skn t), .int (sdr t), .int (swa t), .int (sbu t), .int (sni t)])), (20, .inl (false, 6, sce t)), (21, .inl (false, 6, she t)), (22, .inl (false, 6, stu t))]) dX0_copyFrom_55 fX0_25 fpX0_3 (by decide) rfl (Nat.le_of_ble_eq_true rfl) rfl rfl ?_
      refine E_aload_n dX0_copyFrom_58 rfl ?_
      refine E_aload_n dX0_copyFrom_59 rfl ?_
      refine E_get dX0_copyFrom_60 fX0_28 (by decide) rfl rfl ?_
      refine E_puti (fs2 := [.ref 2, .ref 3, .ref 4, .int (skn t), .int (sdr t), .int (swa s), .int (sbu s), .int (sni s)]) (L2 := [(1, .inr (0, [.ref 2, .ref 3, .ref 4, .int (skn t), .int (sdr t), .int (swa s), .int (sbu s), .int (sni s)])), (2, .inl (false, 6, (cpy (sce s) (sce t) 6))), (3, .inl (false, 6, (cpy (she s) (she t) 6))), (4, .inl (false, 6, (cpy (stu s) (stu t) 6))), (19, .inr (0, [.ref 20, .ref 21, .ref 22, .int (skn t), .int (sdr t), .int (swa t), .int (sbu t), .int (sni t)])), (20, .inl (false, 6, sce t)), (21, .inl (false, 6, she t)), (22, .inl (false, 6, stu t))]) dX0_copyFrom_63 fX0_28 fpX0_4 (by decide) rfl (Nat.le_of_ble_eq_true rfl) rfl rfl ?_
      refine E_aload_n dX0_copyFrom_66 rfl ?_
      refine E_aload_n dX0_copyFrom_67 rfl ?_
      refine E_get dX0_copyFrom_68 fX0_31 (by decide) rfl rfl ?_
      refine E_puti (fs2 := [.ref 2, .ref 3, .ref 4, .int (skn t), .int (sdr t), .int (swa t), .int (sbu s), .int (sni s)]) (L2 := [(1, .inr (0, [.ref 2, .ref 3, .ref 4, .int (skn t), .int (sdr t), .int (swa t), .int (sbu s), .int (sni s)])), (2, .inl (false, 6, (cpy (sce s) (sce t) 6))), (3, .inl (false, 6, (cpy (she s) (she t) 6))), (4, .inl (false, 6, (cpy (stu s) (stu t) 6))), (19, .inr (0, [.ref 20, .ref 21, .ref 22, .int (skn t), .int (sdr t), .int (swa t), .int (sbu t), .int (sni t)])), (20, .inl (false, 6, sce t)), (21, .inl (false, 6, she t)), (22, .inl (false, 6, stu t))]) dX0_copyFrom_71 fX0_31 fpX0_5 (by decide) rfl (Nat.le_of_ble_eq_true rfl) rfl rfl ?_
      refine E_aload_n dX0_copyFrom_74 rfl ?_
      refine E_aload_n dX0_copyFrom_75 rfl ?_
      refine E_get dX0_copyFrom_76 fX0_21 (by decide) rfl rfl ?_
      refine E_puti (fs2 := [.ref 2, .ref 3, .ref 4, .int (skn t), .int (sdr t), .int (swa t), .int (sbu t), .int (sni s)]) (L2 := [(1, .inr (0, [.ref 2, .ref 3, .ref 4, .int (skn t), .int (sdr t), .int (swa t), .int (sbu t), .int (sni s)])), (2, .inl (false, 6, (cpy (sce s) (sce t) 6))), (3, .inl (false, 6, (cpy (she s) (she t) 6))), (4, .inl (false, 6, (cpy (stu s) (stu t) 6))), (19, .inr (0, [.ref 20, .ref 21, .ref 22, .int (skn t), .int (sdr t), .int (swa t), .int (sbu t), .int (sni t)])), (20, .inl (false, 6, sce t)), (21, .inl (false, 6, she t)), (22, .inl (false, 6, stu t))]) dX0_copyFrom_79 fX0_21 fpX0_6 (by decide) rfl (Nat.le_of_ble_eq_true rfl) rfl rfl ?_
      refine E_aload_n dX0_copyFrom_82 rfl ?_
      refine E_aload_n dX0_copyFrom_83 rfl ?_
      refine E_get dX0_copyFrom_84 fX0_34 (by decide) rfl rfl ?_
      refine E_puti (fs2 := [.ref 2, .ref 3, .ref 4, .int (skn t), .int (sdr t), .int (swa t), .int (sbu t), .int (sni t)]) (L2 := [(1, .inr (0, [.ref 2, .ref 3, .ref 4, .int (skn t), .int (sdr t), .int (swa t), .int (sbu t), .int (sni t)])), (2, .inl (false, 6, (cpy (sce s) (sce t) 6))), (3, .inl (false, 6, (cpy (she s) (she t) 6))), (4, .inl (false, 6, (cpy (stu s) (stu t) 6))), (19, .inr (0, [.ref 20, .ref 21, .ref 22, .int (skn t), .int (sdr t), .int (swa t), .int (sbu t), .int (sni t)])), (20, .inl (false, 6, sce t)), (21, .inl (false, 6, she t)), (22, .inl (false, 6, stu t))]) dX0_copyFrom_87 fX0_34 fpX0_7 (by decide) rfl (Nat.le_of_ble_eq_true rfl) rfl rfl ?_
      exact E_vretf dX0_copyFrom_90 rfl (by rw [cpy_all hA.1, cpy_all hA.2.1, cpy_all hA.2.2])
    · intro i hi ih
      refine E_iload_n dX0_copyFrom_2 rfl ?_
      refine E_bipush (v := 6) dX0_copyFrom_3 (by decide) ?_
      refine E_icmp_ge (tgt := 50) dX0_copyFrom_5 (by decide) (fun c => absurd c (cI_nle (n := 6) rfl hi (by decide))) (fun _ => ?_)
      refine E_aload_n dX0_copyFrom_8 rfl ?_
      refine E_get dX0_copyFrom_9 fX0_9 (by decide) rfl rfl ?_
      refine E_iload_n dX0_copyFrom_12 rfl ?_
      refine E_aload_n dX0_copyFrom_13 rfl ?_
      refine E_get dX0_copyFrom_14 fX0_9 (by decide) rfl rfl ?_
      refine E_iload_n dX0_copyFrom_17 rfl ?_
      refine E_ialdN (j := i) dX0_copyFrom_18 (by decide) rfl (by omega) (by decide) ?_
      refine E_iastN (j := i) (f2 := cpy (sce s) (sce t) (i + 1)) (L2 := [(1, .inr (0, [.ref 2, .ref 3, .ref 4, .int (skn s), .int (sdr s), .int (swa s), .int (sbu s), .int (sni s)])), (2, .inl (false, 6, (cpy (sce s) (sce t) (i + 1)))), (3, .inl (false, 6, (cpy (she s) (she t) i))), (4, .inl (false, 6, (cpy (stu s) (stu t) i))), (19, .inr (0, [.ref 20, .ref 21, .ref 22, .int (skn t), .int (sdr t), .int (swa t), .int (sbu t), .int (sni t)])), (20, .inl (false, 6, sce t)), (21, .inl (false, 6, she t)), (22, .inl (false, 6, stu t))]) dX0_copyFrom_19 (by decide) rfl (by omega) (by decide) (cpy_s _ _ _) rfl ?_
      refine E_aload_n dX0_copyFrom_20 rfl ?_
      refine E_get dX0_copyFrom_21 fX0_15 (by decide) rfl rfl ?_
      refine E_iload_n dX0_copyFrom_24 rfl ?_
      refine E_aload_n dX0_copyFrom_25 rfl ?_
      refine E_get dX0_copyFrom_26 fX0_15 (by decide) rfl rfl ?_
      refine E_iload_n dX0_copyFrom_29 rfl ?_
      refine E_ialdN (j := i) dX0_copyFrom_30 (by decide) rfl (by omega) (by decide) ?_
      refine E_iastN (j := i) (f2 := cpy (she s) (she t) (i + 1)) (L2 := [(1, .inr (0, [.ref 2, .ref 3, .ref 4, .int (skn s), .int (sdr s), .int (swa s), .int (sbu s), .int (sni s)])), (2, .inl (false, 6, (cpy (sce s) (sce t) (i + 1)))), (3, .inl (false, 6, (cpy (she s) (she t) (i + 1)))), (4, .inl (false, 6, (cpy (stu s) (stu t) i))), (19, .inr (0, [.ref 20, .ref 21, .ref 22, .int (skn t), .int (sdr t), .int (swa t), .int (sbu t), .int (sni t)])), (20, .inl (false, 6, sce t)), (21, .inl (false, 6, she t)), (22, .inl (false, 6, stu t))]) dX0_copyFrom_31 (by decide) rfl (by omega) (by decide) (cpy_s _ _ _) rfl ?_
      refine E_aload_n dX0_copyFrom_32 rfl ?_
      refine E_get dX0_copyFrom_33 fX0_18 (by decide) rfl rfl ?_
      refine E_iload_n dX0_copyFrom_36 rfl ?_
      refine E_aload_n dX0_copyFrom_37 rfl ?_
      refine E_get dX0_copyFrom_38 fX0_18 (by decide) rfl rfl ?_
      refine E_iload_n dX0_copyFrom_41 rfl ?_
      refine E_ialdN (j := i) dX0_copyFrom_42 (by decide) rfl (by omega) (by decide) ?_
      refine E_iastN (j := i) (f2 := cpy (stu s) (stu t) (i + 1)) (L2 := [(1, .inr (0, [.ref 2, .ref 3, .ref 4, .int (skn s), .int (sdr s), .int (swa s), .int (sbu s), .int (sni s)])), (2, .inl (false, 6, (cpy (sce s) (sce t) (i + 1)))), (3, .inl (false, 6, (cpy (she s) (she t) (i + 1)))), (4, .inl (false, 6, (cpy (stu s) (stu t) (i + 1)))), (19, .inr (0, [.ref 20, .ref 21, .ref 22, .int (skn t), .int (sdr t), .int (swa t), .int (sbu t), .int (sni t)])), (20, .inl (false, 6, sce t)), (21, .inl (false, 6, she t)), (22, .inl (false, 6, stu t))]) dX0_copyFrom_43 (by decide) rfl (by omega) (by decide) (cpy_s _ _ _) rfl ?_
      refine E_iinc (y := nI (i + 1)) (l2 := [.ref 1, .ref 19, .int (nI (i + 1))]) dX0_copyFrom_44 rfl (nI_1 _) (by decide) rfl ?_
      refine E_goto (tgt := 2) dX0_copyFrom_47 (by decide) ?_
      exact ih
  have e0 := L2 0 (by decide)
  rw [cpy_0, cpy_0, cpy_0] at e0
  exact e0
