/-! a night, and the weeks, of the reference -/
theorem n1_no {s : CS} {i : Nat} (h : ¬ 0 < she (n1 s i).1 i) : n1 s (i + 1) = n1 s i := by rw [n1, decide_eq_false h]; rfl
theorem n1_yes {s : CS} {i : Nat} (h : 0 < she (n1 s i).1 i) : n1 s (i + 1) = (smS (n1 s i).1 i, bif smF (n1 s i).1 i then orB (n1 s i).2 i else (n1 s i).2) := by rw [n1, decide_eq_true h]; rfl
theorem n1_A {s : CS} {i : Nat} (h : 0 < she (n1 s i).1 i) (h0 : ¬ smX (n1 s i).1 i ≤ 0) (h9 : smX (n1 s i).1 i ≤ 9) : n1 s (i + 1) = (mkS (sce (n1 s i).1) (upd (she (n1 s i).1) i (smX (n1 s i).1 i)) (stu (n1 s i).1) (skn (n1 s i).1) (sdr (n1 s i).1) (swa (n1 s i).1) (sbu (n1 s i).1) (sni (n1 s i).1), (n1 s i).2) := by
  rw [n1_yes h, smS, if_neg h0, if_pos h9, smF, decide_eq_true h0, decide_eq_false (fun e => e h9)]; rfl
theorem n1_B {s : CS} {i : Nat} (h : 0 < she (n1 s i).1 i) (h0 : smX (n1 s i).1 i ≤ 0) : n1 s (i + 1) = (mkS (sce (n1 s i).1) (upd (she (n1 s i).1) i 0) (stu (n1 s i).1) (skn (n1 s i).1) (orB (sdr (n1 s i).1) i) (swa (n1 s i).1) (sbu (n1 s i).1) (sni (n1 s i).1), (n1 s i).2) := by
  rw [n1_yes h, smS, if_pos h0, smF, decide_eq_false (fun e => e h0)]; rfl
theorem n1_C {s : CS} {i : Nat} (h : 0 < she (n1 s i).1 i) (h0 : ¬ smX (n1 s i).1 i ≤ 0) (h9 : ¬ smX (n1 s i).1 i ≤ 9) (hb : hbt (swa (n1 s i).1) (nI i) = true) : n1 s (i + 1) = (mkS (sce (n1 s i).1) (upd (she (n1 s i).1) i 5) (stu (n1 s i).1) (skn (n1 s i).1) (sdr (n1 s i).1) (swa (n1 s i).1) (sbu (n1 s i).1) (sni (n1 s i).1), (n1 s i).2) := by
  rw [n1_yes h, smS, if_neg h0, if_neg h9, smF, decide_eq_true h0, decide_eq_true h9, hb]; rfl
theorem n1_D {s : CS} {i : Nat} (h : 0 < she (n1 s i).1 i) (h0 : ¬ smX (n1 s i).1 i ≤ 0) (h9 : ¬ smX (n1 s i).1 i ≤ 9) (hb : hbt (swa (n1 s i).1) (nI i) = false) : n1 s (i + 1) = (mkS (sce (n1 s i).1) (upd (she (n1 s i).1) i 9) (stu (n1 s i).1) (skn (n1 s i).1) (sdr (n1 s i).1) (swa (n1 s i).1) (sbu (n1 s i).1) (sni (n1 s i).1), orB (n1 s i).2 i) := by
  rw [n1_yes h, smS, if_neg h0, if_neg h9, smF, decide_eq_true h0, decide_eq_true h9, hb]; rfl
theorem n2_kn (z : CS) (f : Int32) : ∀ i, skn (n2 z f i) = skn z
  | 0 => rfl
  | i + 1 => by
    rw [n2]
    cases decide (0 < she (n2 z f i) i)
    · exact n2_kn z f i
    · exact n2_kn z f i
theorem n2_bu (z : CS) (f : Int32) : ∀ i, sbu (n2 z f i) = sbu z
  | 0 => rfl
  | i + 1 => by
    rw [n2]
    cases decide (0 < she (n2 z f i) i)
    · exact n2_bu z f i
    · exact n2_bu z f i
theorem n1_bu (s : CS) : ∀ i, sbu (n1 s i).1 = sbu s
  | 0 => rfl
  | i + 1 => by
    rw [n1]
    cases decide (0 < she (n1 s i).1 i)
    · exact n1_bu s i
    · show sbu (smS (n1 s i).1 i) = _
      rw [← n1_bu s i, smS]
      split
      · rfl
      · split <;> rfl
theorem prS_bu (s : CS) (kd h : Nat) (c : Int32) : sbu (prS s kd h c) = sbu s := by
  match kd with
  | 0 => rfl
  | 1 => rfl
  | 2 => rfl
  | 3 => rfl
  | 4 => rfl
  | n + 5 =>
    show sbu (ngS s) = _
    have e : ∀ (z : CS) (k : Int32), sbu (setKn z k) = sbu z := fun _ _ => rfl
    rw [ngS, n2_bu, e]
    exact n1_bu s 6
theorem n2_t {z : CS} {f : Int32} {i k : Nat} (h : 0 < she (n2 z f i) i) (hk : k < 10) (ek : stu (n2 z f i) i = nI k) : n2 z f (i + 1) = setTu (n2 z f i) (upd (stu (n2 z f i)) i (nI (k - cntM (sce (n2 z f i)) i f 6))) := by
  have hc := cntM_le (sce (n2 z f i)) i f 6
  rw [n2, decide_eq_true h, cnt_NM, ek, max_sub (by omega) (by omega)]; rfl
theorem n2_f {z : CS} {f : Int32} {i : Nat} (h : ¬ 0 < she (n2 z f i) i) : n2 z f (i + 1) = n2 z f i := by rw [n2, decide_eq_false h]; rfl
theorem bu_tt {y : CS} {i : Nat} (hi : i < 6) (a b : Int32) : upd (bkF (setTu y (upd (stu y) i a))) (6 + i) b = bkF (setTu y (upd (stu y) i b)) := by
  rw [bu_t hi]
  show bkF (mkS (sce y) (she y) (upd (upd (stu y) i a) i b) (skn y) (sdr y) (swa y) (sbu y) (sni y)) = bkF (mkS (sce y) (she y) (upd (stu y) i b) (skn y) (sdr y) (swa y) (sbu y) (sni y))
  rw [show upd (upd (stu y) i a) i b = upd (stu y) i b from by funext j; simp only [upd]; by_cases e : j = i <;> simp [e]]
theorem cM_t {ce : Nat → Int32} {h j : Nat} {o : Int32} (h1 : ¬ j = h) (h2 : hbt o (nI j) = true) (h3 : nrC (ce h) (ce j) = true) : cntM ce h o (j + 1) = cntM ce h o j + 1 := by
  rw [cntM, h2, areB, h3, decide_eq_true (show ¬ h = j from fun e => h1 e.symm)]; rfl
theorem cM_a {ce : Nat → Int32} {h j : Nat} {o : Int32} (h1 : j = h) : cntM ce h o (j + 1) = cntM ce h o j := by
  rw [cntM, areB, decide_eq_false (show ¬ ¬ h = j from fun e => e h1.symm)]; cases hbt o (nI j) <;> rfl
theorem cM_b {ce : Nat → Int32} {h j : Nat} {o : Int32} (h2 : hbt o (nI j) = false) : cntM ce h o (j + 1) = cntM ce h o j := by
  rw [cntM, h2]; rfl
theorem cM_c {ce : Nat → Int32} {h j : Nat} {o : Int32} (h3 : nrC (ce h) (ce j) = false) : cntM ce h o (j + 1) = cntM ce h o j := by
  rw [cntM, areB, h3]; cases hbt o (nI j) <;> cases decide (¬ h = j) <;> rfl
theorem sub0 (x : Int32) : x - 0 = x := by apply Int32.toBitVec_inj.mp; simp
theorem rsn_pos {s : CS} {kd h : Nat} {c : Int32} (hr : ¬ rsn s kd h c = 0) : ¬ rsn s kd h c ≤ 0 := by
  have key : rsn s kd h c = 0 ∨ rsn s kd h c = 1 ∨ rsn s kd h c = 2 ∨ rsn s kd h c = 3 ∨ rsn s kd h c = 4 ∨ rsn s kd h c = 5 ∨ rsn s kd h c = 6 ∨ rsn s kd h c = 7 := by
    match kd with
    | 0 => simp only [rsn]; repeat' split
           all_goals decide
    | 1 => simp only [rsn]; repeat' split
           all_goals decide
    | 2 => simp only [rsn]; repeat' split
           all_goals decide
    | 3 => simp only [rsn]; repeat' split
           all_goals decide
    | 4 => simp only [rsn]; repeat' split
           all_goals decide
    | n + 5 => simp only [rsn]; repeat' split
               all_goals decide
  rcases key with e | e | e | e | e | e | e | e
  · exact absurd e hr
  all_goals rw [e]; decide

set_option maxHeartbeats 4000000 in
set_option maxRecDepth 20000 in
theorem m_burn (d : Nat) (bu fl fa fw fr rs ac : Int32) (q n : Nat) (s : CS) (hs : OkS s) (hn : sni s < 99) : FC YX7_burn (d + 2) [.ref 38, .null, .null, .null, .null] [(38, .inr (7, [.ref 39, .ref 40, .int bu, .int (nI q), .ref 41, .int (nI n), .ref 42, .int fl, .int fa, .int fw, .int fr, .int rs, .int ac, .ref 43, .ref 44, .ref 45, .ref 46, .ref 47, .ref 48, .ref 49])), (40, .inl (false, 22, (bkF ((n1 s 0).1))))] (some (.int (ngF s))) [(38, .inr (7, [.ref 39, .ref 40, .int bu, .int (nI q), .ref 41, .int (nI n), .ref 42, .int (fl + bcI (ngF s)), .int fa, .int fw, .int fr, .int rs, .int ac, .ref 43, .ref 44, .ref 45, .ref 46, .ref 47, .ref 48, .ref 49])), (40, .inl (false, 22, (bkF (ngS s))))] := by
  intro hp
  refine E_iconst (v := 0) dX7_burn_0 (by decide) ?_
  refine E_istore_n (l2 := [.ref 38, .int 0, .null, .null, .null]) dX7_burn_1 rfl (by decide) rfl ?_
  refine E_iconst (v := 0) dX7_burn_2 (by decide) ?_
  refine E_istore_n (l2 := [.ref 38, .int 0, .int 0, .null, .null]) dX7_burn_3 rfl (by decide) rfl ?_
  have L4 : ∀ i, i ≤ 6 → ∀ l3 l4 : Value, E YX7_burn (d + 2) 4 [.ref 38, .int ((n1 s i).2), .int (nI i), l3, l4] [] (hov hp [(38, .inr (7, [.ref 39, .ref 40, .int bu, .int (nI q), .ref 41, .int (nI n), .ref 42, .int fl, .int fa, .int fw, .int fr, .int rs, .int ac, .ref 43, .ref 44, .ref 45, .ref 46, .ref 47, .ref 48, .ref 49])), (40, .inl (false, 22, (bkF ((n1 s i).1))))]) (fun v h' => v = some (.int (ngF s)) ∧ h' = hov hp [(38, .inr (7, [.ref 39, .ref 40, .int bu, .int (nI q), .ref 41, .int (nI n), .ref 42, .int (fl + bcI (ngF s)), .int fa, .int fw, .int fr, .int rs, .int ac, .ref 43, .ref 44, .ref 45, .ref 46, .ref 47, .ref 48, .ref 49])), (40, .inl (false, 22, (bkF (ngS s))))]) := by
    refine down 6 ?_ ?_
    · intro l3 l4
      refine E_iload_n dX7_burn_4 rfl ?_
      refine E_bipush (v := 6) dX7_burn_5 (by decide) ?_
      refine E_icmp_ge (tgt := 144) dX7_burn_7 (by decide) (fun _ => ?_) (fun c => absurd (by decide) c)
      refine E_iconst (v := 0) dX7_burn_144 (by decide) ?_
      refine E_istore_n (l2 := [.ref 38, .int ((n1 s 6).2), .int 0, l3, l4]) dX7_burn_145 rfl (by decide) rfl ?_
      have hz6 := n1_ok hs hn 6 (Nat.le_refl _)
      generalize hz : n1 s 6 = z at hz6
      have L146 : ∀ i, i ≤ 6 → ∀ l3 l4 : Value, E YX7_burn (d + 2) 146 [.ref 38, .int z.2, .int (nI i), l3, l4] [] (hov hp [(38, .inr (7, [.ref 39, .ref 40, .int bu, .int (nI q), .ref 41, .int (nI n), .ref 42, .int fl, .int fa, .int fw, .int fr, .int rs, .int ac, .ref 43, .ref 44, .ref 45, .ref 46, .ref 47, .ref 48, .ref 49])), (40, .inl (false, 22, (bkF (n2 z.1 z.2 i))))]) (fun v h' => v = some (.int (ngF s)) ∧ h' = hov hp [(38, .inr (7, [.ref 39, .ref 40, .int bu, .int (nI q), .ref 41, .int (nI n), .ref 42, .int (fl + bcI (ngF s)), .int fa, .int fw, .int fr, .int rs, .int ac, .ref 43, .ref 44, .ref 45, .ref 46, .ref 47, .ref 48, .ref 49])), (40, .inl (false, 22, (bkF (ngS s))))]) := by
        refine down 6 ?_ ?_
        · intro l3 l4
          refine E_iload_n dX7_burn_146 rfl ?_
          refine E_bipush (v := 6) dX7_burn_147 (by decide) ?_
          refine E_icmp_ge (tgt := 259) dX7_burn_149 (by decide) (fun _ => ?_) (fun c => absurd (by decide) c)
          refine E_aload_n dX7_burn_259 rfl ?_
          refine E_get dX7_burn_260 fX7_13 (by decide) rfl rfl ?_
          refine E_bipush (v := 19) dX7_burn_263 (by decide) ?_
          refine E_dup2 dX7_burn_265 rfl rfl ?_
          refine E_ialdN (j := 19) dX7_burn_266 (by decide) rfl (by omega) (by decide) ?_
          refine E_eqi (y := skn (n2 z.1 z.2 6)) rfl ?_
          refine E_iload_n dX7_burn_267 rfl ?_
          refine E_ior dX7_burn_268 ?_
          refine E_iastN (j := 19) (f2 := bkF (mkS (sce (n2 z.1 z.2 6)) (she (n2 z.1 z.2 6)) (stu (n2 z.1 z.2 6)) (skn (n2 z.1 z.2 6) ||| z.2) (sdr (n2 z.1 z.2 6)) (swa (n2 z.1 z.2 6)) (sbu (n2 z.1 z.2 6)) (sni (n2 z.1 z.2 6)))) (L2 := [(38, .inr (7, [.ref 39, .ref 40, .int bu, .int (nI q), .ref 41, .int (nI n), .ref 42, .int fl, .int fa, .int fw, .int fr, .int rs, .int ac, .ref 43, .ref 44, .ref 45, .ref 46, .ref 47, .ref 48, .ref 49])), (40, .inl (false, 22, (bkF (mkS (sce (n2 z.1 z.2 6)) (she (n2 z.1 z.2 6)) (stu (n2 z.1 z.2 6)) (skn (n2 z.1 z.2 6) ||| z.2) (sdr (n2 z.1 z.2 6)) (swa (n2 z.1 z.2 6)) (sbu (n2 z.1 z.2 6)) (sni (n2 z.1 z.2 6))))))]) dX7_burn_269 (by decide) rfl (by omega) (by decide) bu_19 rfl ?_
          refine E_aload_n dX7_burn_270 rfl ?_
          refine E_dup dX7_burn_271 rfl ?_
          refine E_get dX7_burn_272 fX7_67 (by decide) rfl rfl ?_
          refine E_iload_n dX7_burn_275 rfl ?_
          refine E_callS (As := [.int z.2]) (l' := [.int z.2, .null, .null]) (st := [.int fl, .ref 38]) dX7_burn_276 kX7_56 sX7_bits MX7_bits rfl rfl (Nat.le_of_ble_eq_true rfl) (FC.use (c_bits (d + 1) _) rfl (L2 := [(38, .inr (7, [.ref 39, .ref 40, .int bu, .int (nI q), .ref 41, .int (nI n), .ref 42, .int fl, .int fa, .int fw, .int fr, .int rs, .int ac, .ref 43, .ref 44, .ref 45, .ref 46, .ref 47, .ref 48, .ref 49])), (40, .inl (false, 22, (bkF (mkS (sce (n2 z.1 z.2 6)) (she (n2 z.1 z.2 6)) (stu (n2 z.1 z.2 6)) (skn (n2 z.1 z.2 6) ||| z.2) (sdr (n2 z.1 z.2 6)) (swa (n2 z.1 z.2 6)) (sbu (n2 z.1 z.2 6)) (sni (n2 z.1 z.2 6))))))]) rfl) (Nat.le_of_ble_eq_true rfl) (fun _ _ hq9 => E_fgo ?_ hq9)
          show E _ _ 279 [.ref 38, .int z.2, .int (nI 6), l3, l4] [.int (bitN z.2 8), .int fl, .ref 38] (hov hp [(38, .inr (7, [.ref 39, .ref 40, .int bu, .int (nI q), .ref 41, .int (nI n), .ref 42, .int fl, .int fa, .int fw, .int fr, .int rs, .int ac, .ref 43, .ref 44, .ref 45, .ref 46, .ref 47, .ref 48, .ref 49])), (40, .inl (false, 22, (bkF (mkS (sce (n2 z.1 z.2 6)) (she (n2 z.1 z.2 6)) (stu (n2 z.1 z.2 6)) (skn (n2 z.1 z.2 6) ||| z.2) (sdr (n2 z.1 z.2 6)) (swa (n2 z.1 z.2 6)) (sbu (n2 z.1 z.2 6)) (sni (n2 z.1 z.2 6))))))]) _
          refine E_eqi (y := bcI z.2) (bits_of hz6.2) ?_
          refine E_iadd dX7_burn_279 ?_
          refine E_puti (fs2 := [.ref 39, .ref 40, .int bu, .int (nI q), .ref 41, .int (nI n), .ref 42, .int (fl + (bcI z.2)), .int fa, .int fw, .int fr, .int rs, .int ac, .ref 43, .ref 44, .ref 45, .ref 46, .ref 47, .ref 48, .ref 49]) (L2 := [(38, .inr (7, [.ref 39, .ref 40, .int bu, .int (nI q), .ref 41, .int (nI n), .ref 42, .int (fl + (bcI z.2)), .int fa, .int fw, .int fr, .int rs, .int ac, .ref 43, .ref 44, .ref 45, .ref 46, .ref 47, .ref 48, .ref 49])), (40, .inl (false, 22, (bkF (mkS (sce (n2 z.1 z.2 6)) (she (n2 z.1 z.2 6)) (stu (n2 z.1 z.2 6)) (skn (n2 z.1 z.2 6) ||| z.2) (sdr (n2 z.1 z.2 6)) (swa (n2 z.1 z.2 6)) (sbu (n2 z.1 z.2 6)) (sni (n2 z.1 z.2 6))))))]) dX7_burn_280 fX7_67 fpX7_7 (by decide) rfl (Nat.le_of_ble_eq_true rfl) rfl rfl ?_
          refine E_iload_n dX7_burn_283 rfl ?_
          exact E_iretf dX7_burn_284 rfl rfl (by rw [← hz]; rfl) (by rw [show ngF s = z.2 from by rw [← hz]; rfl, show ngS s = setKn (n2 z.1 z.2 6) (skn (n2 z.1 z.2 6) ||| z.2) from by rw [n2_kn, ← n2_setKn, ← hz]; rfl]; rfl)
        · intro i hi ih l3 l4
          have hy := n2_ok hz6.1 z.2 i (by omega)
          obtain ⟨k, hk, ek⟩ := hy.2.2.1 i hi
          refine E_iload_n dX7_burn_146 rfl ?_
          refine E_bipush (v := 6) dX7_burn_147 (by decide) ?_
          refine E_icmp_ge (tgt := 259) dX7_burn_149 (by decide) (fun c => absurd c (cI_nle (n := 6) rfl hi (by decide))) (fun _ => ?_)
          refine E_iconst (v := 0) dX7_burn_152 (by decide) ?_
          refine E_istore_n (l2 := [.ref 38, .int z.2, .int (nI i), .int 0, l4]) dX7_burn_153 rfl (by decide) rfl ?_
          by_cases ca : 0 < she (n2 z.1 z.2 i) i
          · have LJ : ∀ j, j ≤ 6 → ∀ l4 : Value, E YX7_burn (d + 2) 154 [.ref 38, .int z.2, .int (nI i), .int (nI j), l4] [] (hov hp [(38, .inr (7, [.ref 39, .ref 40, .int bu, .int (nI q), .ref 41, .int (nI n), .ref 42, .int fl, .int fa, .int fw, .int fr, .int rs, .int ac, .ref 43, .ref 44, .ref 45, .ref 46, .ref 47, .ref 48, .ref 49])), (40, .inl (false, 22, (bkF (setTu (n2 z.1 z.2 i) (upd (stu (n2 z.1 z.2 i)) i (nI (k - cntM (sce (n2 z.1 z.2 i)) i z.2 j)))))))]) (fun v h' => v = some (.int (ngF s)) ∧ h' = hov hp [(38, .inr (7, [.ref 39, .ref 40, .int bu, .int (nI q), .ref 41, .int (nI n), .ref 42, .int (fl + bcI (ngF s)), .int fa, .int fw, .int fr, .int rs, .int ac, .ref 43, .ref 44, .ref 45, .ref 46, .ref 47, .ref 48, .ref 49])), (40, .inl (false, 22, (bkF (ngS s))))]) := by
              refine down 6 ?_ ?_
              · intro l4
                refine E_iload_n dX7_burn_154 rfl ?_
                refine E_bipush (v := 6) dX7_burn_155 (by decide) ?_
                refine E_icmp_ge (tgt := 253) dX7_burn_157 (by decide) (fun _ => ?_) (fun c => absurd (by decide) c)
                refine E_iinc (y := nI (i + 1)) (l2 := [.ref 38, .int z.2, .int (nI (i + 1)), .int (nI 6), l4]) dX7_burn_253 rfl (nI_1 _) (by decide) rfl ?_
                refine E_goto (tgt := 146) dX7_burn_256 (by decide) ?_
                have e9 := ih (.int (nI 6)) l4
                rw [n2_t ca hk ek] at e9
                exact e9
              · intro j hj ihj l4
                refine E_iload_n dX7_burn_154 rfl ?_
                refine E_bipush (v := 6) dX7_burn_155 (by decide) ?_
                refine E_icmp_ge (tgt := 253) dX7_burn_157 (by decide) (fun c => absurd c (cI_nle (n := 6) rfl hj (by decide))) (fun _ => ?_)
                refine E_aload_n dX7_burn_160 rfl ?_
                refine E_get dX7_burn_161 fX7_13 (by decide) rfl rfl ?_
                refine E_iload_n dX7_burn_164 rfl ?_
                refine E_ialdN (j := i) dX7_burn_165 (by decide) rfl (by omega) (by decide) ?_
                refine E_eqi (y := she (n2 z.1 z.2 i) i) (bk_h hi) ?_
                refine E_if_le (tgt := 210) dX7_burn_166 (by decide) (fun c => absurd ca (Int32.not_lt.mpr c)) (fun _ => ?_)
                refine E_iload_n dX7_burn_169 rfl ?_
                refine E_iload_n dX7_burn_170 rfl ?_
                refine E_icmp_eq (tgt := 210) dX7_burn_171 (by decide) (fun c171 => ?_) (fun c171 => ?_)
                · have k171 : j = i := nI_inj (by omega) (by omega) c171
                  refine E_iconst (v := 0) dX7_burn_210 (by decide) ?_
                  refine E_istore (l2 := [.ref 38, .int z.2, .int (nI i), .int (nI j), .int 0]) dX7_burn_211 (by decide) rfl ?_
                  refine E_aload_n dX7_burn_213 rfl ?_
                  refine E_get dX7_burn_214 fX7_13 (by decide) rfl rfl ?_
                  refine E_bipush (v := 6) dX7_burn_217 (by decide) ?_
                  refine E_iload_n dX7_burn_219 rfl ?_
                  refine E_iadd dX7_burn_220 ?_
                  refine E_eqi (y := nI (6 + i)) (nI_add 6 _) ?_
                  refine E_dup2 dX7_burn_221 rfl rfl ?_
                  refine E_ialdN (j := 6 + i) dX7_burn_222 (by decide) rfl (by omega) (by decide) ?_
                  refine E_eqi (y := nI (k - cntM (sce (n2 z.1 z.2 i)) i z.2 j)) ((bk_t hi).trans upd_eq) ?_
                  refine E_iload dX7_burn_223 rfl ?_
                  refine E_if_eq (tgt := 244) dX7_burn_225 (by decide) (fun _ => ?_) (fun c => by first | exact absurd c (by decide) | exact absurd (by decide) c)
                  refine E_iconst (v := 0) dX7_burn_244 (by decide) ?_
                  refine E_isub dX7_burn_245 ?_
                  refine E_eqi (y := nI (k - cntM (sce (n2 z.1 z.2 i)) i z.2 j)) (sub0 _) ?_
                  refine E_iastN (j := 6 + i) (f2 := bkF (setTu (n2 z.1 z.2 i) (upd (stu (n2 z.1 z.2 i)) i (nI (k - cntM (sce (n2 z.1 z.2 i)) i z.2 j))))) (L2 := [(38, .inr (7, [.ref 39, .ref 40, .int bu, .int (nI q), .ref 41, .int (nI n), .ref 42, .int fl, .int fa, .int fw, .int fr, .int rs, .int ac, .ref 43, .ref 44, .ref 45, .ref 46, .ref 47, .ref 48, .ref 49])), (40, .inl (false, 22, (bkF (setTu (n2 z.1 z.2 i) (upd (stu (n2 z.1 z.2 i)) i (nI (k - cntM (sce (n2 z.1 z.2 i)) i z.2 j)))))))]) dX7_burn_246 (by decide) rfl (by omega) (by decide) (bu_tt hi _ _) rfl ?_
                  refine E_iinc (y := nI (j + 1)) (l2 := [.ref 38, .int z.2, .int (nI i), .int (nI (j + 1)), .int 0]) dX7_burn_247 rfl (nI_1 _) (by decide) rfl ?_
                  refine E_goto (tgt := 154) dX7_burn_250 (by decide) ?_
                  have e9 := ihj (.int 0)
                  rw [cM_a k171] at e9
                  exact e9
                · have k171 : ¬ j = i := fun e => c171 (by rw [e])
                  refine E_iload_n dX7_burn_174 rfl ?_
                  refine E_iload_n dX7_burn_175 rfl ?_
                  refine E_callS (As := [.int z.2, .int (nI j)]) (l' := [.int z.2, .int (nI j)]) (st := []) dX7_burn_176 kX7_80 sX7_has MX7_has rfl rfl (Nat.le_of_ble_eq_true rfl) (FC.use (c_has (d + 1) _ _) rfl (L2 := [(38, .inr (7, [.ref 39, .ref 40, .int bu, .int (nI q), .ref 41, .int (nI n), .ref 42, .int fl, .int fa, .int fw, .int fr, .int rs, .int ac, .ref 43, .ref 44, .ref 45, .ref 46, .ref 47, .ref 48, .ref 49])), (40, .inl (false, 22, (bkF (setTu (n2 z.1 z.2 i) (upd (stu (n2 z.1 z.2 i)) i (nI (k - cntM (sce (n2 z.1 z.2 i)) i z.2 j)))))))]) rfl) (Nat.le_of_ble_eq_true rfl) (fun _ _ hq9 => E_fgo ?_ hq9)
                  show E _ _ 179 [.ref 38, .int z.2, .int (nI i), .int (nI j), l4] [.int (b2i (hbt z.2 (nI j)))] (hov hp [(38, .inr (7, [.ref 39, .ref 40, .int bu, .int (nI q), .ref 41, .int (nI n), .ref 42, .int fl, .int fa, .int fw, .int fr, .int rs, .int ac, .ref 43, .ref 44, .ref 45, .ref 46, .ref 47, .ref 48, .ref 49])), (40, .inl (false, 22, (bkF (setTu (n2 z.1 z.2 i) (upd (stu (n2 z.1 z.2 i)) i (nI (k - cntM (sce (n2 z.1 z.2 i)) i z.2 j)))))))]) _
                  refine E_if_eq (tgt := 210) dX7_burn_179 (by decide) (fun c179 => ?_) (fun c179 => ?_)
                  · have c179 := b2i_e0 c179
                    refine E_iconst (v := 0) dX7_burn_210 (by decide) ?_
                    refine E_istore (l2 := [.ref 38, .int z.2, .int (nI i), .int (nI j), .int 0]) dX7_burn_211 (by decide) rfl ?_
                    refine E_aload_n dX7_burn_213 rfl ?_
                    refine E_get dX7_burn_214 fX7_13 (by decide) rfl rfl ?_
                    refine E_bipush (v := 6) dX7_burn_217 (by decide) ?_
                    refine E_iload_n dX7_burn_219 rfl ?_
                    refine E_iadd dX7_burn_220 ?_
                    refine E_eqi (y := nI (6 + i)) (nI_add 6 _) ?_
                    refine E_dup2 dX7_burn_221 rfl rfl ?_
                    refine E_ialdN (j := 6 + i) dX7_burn_222 (by decide) rfl (by omega) (by decide) ?_
                    refine E_eqi (y := nI (k - cntM (sce (n2 z.1 z.2 i)) i z.2 j)) ((bk_t hi).trans upd_eq) ?_
                    refine E_iload dX7_burn_223 rfl ?_
                    refine E_if_eq (tgt := 244) dX7_burn_225 (by decide) (fun _ => ?_) (fun c => by first | exact absurd c (by decide) | exact absurd (by decide) c)
                    refine E_iconst (v := 0) dX7_burn_244 (by decide) ?_
                    refine E_isub dX7_burn_245 ?_
                    refine E_eqi (y := nI (k - cntM (sce (n2 z.1 z.2 i)) i z.2 j)) (sub0 _) ?_
                    refine E_iastN (j := 6 + i) (f2 := bkF (setTu (n2 z.1 z.2 i) (upd (stu (n2 z.1 z.2 i)) i (nI (k - cntM (sce (n2 z.1 z.2 i)) i z.2 j))))) (L2 := [(38, .inr (7, [.ref 39, .ref 40, .int bu, .int (nI q), .ref 41, .int (nI n), .ref 42, .int fl, .int fa, .int fw, .int fr, .int rs, .int ac, .ref 43, .ref 44, .ref 45, .ref 46, .ref 47, .ref 48, .ref 49])), (40, .inl (false, 22, (bkF (setTu (n2 z.1 z.2 i) (upd (stu (n2 z.1 z.2 i)) i (nI (k - cntM (sce (n2 z.1 z.2 i)) i z.2 j)))))))]) dX7_burn_246 (by decide) rfl (by omega) (by decide) (bu_tt hi _ _) rfl ?_
                    refine E_iinc (y := nI (j + 1)) (l2 := [.ref 38, .int z.2, .int (nI i), .int (nI (j + 1)), .int 0]) dX7_burn_247 rfl (nI_1 _) (by decide) rfl ?_
                    refine E_goto (tgt := 154) dX7_burn_250 (by decide) ?_
                    have e9 := ihj (.int 0)
                    rw [cM_b c179] at e9
                    exact e9
                  · have c179 := b2i_n0 c179
                    refine E_aload_n dX7_burn_182 rfl ?_
                    refine E_get dX7_burn_183 fX7_13 (by decide) rfl rfl ?_
                    refine E_bipush (v := 12) dX7_burn_186 (by decide) ?_
                    refine E_iload_n dX7_burn_188 rfl ?_
                    refine E_iadd dX7_burn_189 ?_
                    refine E_eqi (y := nI (12 + i)) (nI_add 12 _) ?_
                    refine E_ialdN (j := 12 + i) dX7_burn_190 (by decide) rfl (by omega) (by decide) ?_
                    refine E_eqi (y := sce (n2 z.1 z.2 i) i) (bk_c hi) ?_
                    refine E_aload_n dX7_burn_191 rfl ?_
                    refine E_get dX7_burn_192 fX7_13 (by decide) rfl rfl ?_
                    refine E_bipush (v := 12) dX7_burn_195 (by decide) ?_
                    refine E_iload_n dX7_burn_197 rfl ?_
                    refine E_iadd dX7_burn_198 ?_
                    refine E_eqi (y := nI (12 + j)) (nI_add 12 _) ?_
                    refine E_ialdN (j := 12 + j) dX7_burn_199 (by decide) rfl (by omega) (by decide) ?_
                    refine E_eqi (y := sce (n2 z.1 z.2 i) j) (bk_c hj) ?_
                    refine E_callS (As := [.int (sce (n2 z.1 z.2 i) i), .int (sce (n2 z.1 z.2 i) j)]) (l' := [.int (sce (n2 z.1 z.2 i) i), .int (sce (n2 z.1 z.2 i) j)]) (st := []) dX7_burn_200 kX7_84 sX7_areNear MX7_areNear rfl rfl (Nat.le_of_ble_eq_true rfl) (FC.use (c_nrM d _ _) rfl (L2 := [(38, .inr (7, [.ref 39, .ref 40, .int bu, .int (nI q), .ref 41, .int (nI n), .ref 42, .int fl, .int fa, .int fw, .int fr, .int rs, .int ac, .ref 43, .ref 44, .ref 45, .ref 46, .ref 47, .ref 48, .ref 49])), (40, .inl (false, 22, (bkF (setTu (n2 z.1 z.2 i) (upd (stu (n2 z.1 z.2 i)) i (nI (k - cntM (sce (n2 z.1 z.2 i)) i z.2 j)))))))]) rfl) (Nat.le_of_ble_eq_true rfl) (fun _ _ hq9 => E_fgo ?_ hq9)
                    show E _ _ 203 [.ref 38, .int z.2, .int (nI i), .int (nI j), l4] [.int (b2i (nrM (sce (n2 z.1 z.2 i) i) (sce (n2 z.1 z.2 i) j)))] (hov hp [(38, .inr (7, [.ref 39, .ref 40, .int bu, .int (nI q), .ref 41, .int (nI n), .ref 42, .int fl, .int fa, .int fw, .int fr, .int rs, .int ac, .ref 43, .ref 44, .ref 45, .ref 46, .ref 47, .ref 48, .ref 49])), (40, .inl (false, 22, (bkF (setTu (n2 z.1 z.2 i) (upd (stu (n2 z.1 z.2 i)) i (nI (k - cntM (sce (n2 z.1 z.2 i)) i z.2 j)))))))]) _
                    refine E_if_eq (tgt := 210) dX7_burn_203 (by decide) (fun c203 => ?_) (fun c203 => ?_)
                    · have c203 := b2i_e0 c203
                      rw [nr_MC (hy.1 i hi) (hy.1 j hj)] at c203
                      refine E_iconst (v := 0) dX7_burn_210 (by decide) ?_
                      refine E_istore (l2 := [.ref 38, .int z.2, .int (nI i), .int (nI j), .int 0]) dX7_burn_211 (by decide) rfl ?_
                      refine E_aload_n dX7_burn_213 rfl ?_
                      refine E_get dX7_burn_214 fX7_13 (by decide) rfl rfl ?_
                      refine E_bipush (v := 6) dX7_burn_217 (by decide) ?_
                      refine E_iload_n dX7_burn_219 rfl ?_
                      refine E_iadd dX7_burn_220 ?_
                      refine E_eqi (y := nI (6 + i)) (nI_add 6 _) ?_
                      refine E_dup2 dX7_burn_221 rfl rfl ?_
                      refine E_ialdN (j := 6 + i) dX7_burn_222 (by decide) rfl (by omega) (by decide) ?_
                      refine E_eqi (y := nI (k - cntM (sce (n2 z.1 z.2 i)) i z.2 j)) ((bk_t hi).trans upd_eq) ?_
                      refine E_iload dX7_burn_223 rfl ?_
                      refine E_if_eq (tgt := 244) dX7_burn_225 (by decide) (fun _ => ?_) (fun c => by first | exact absurd c (by decide) | exact absurd (by decide) c)
                      refine E_iconst (v := 0) dX7_burn_244 (by decide) ?_
                      refine E_isub dX7_burn_245 ?_
                      refine E_eqi (y := nI (k - cntM (sce (n2 z.1 z.2 i)) i z.2 j)) (sub0 _) ?_
                      refine E_iastN (j := 6 + i) (f2 := bkF (setTu (n2 z.1 z.2 i) (upd (stu (n2 z.1 z.2 i)) i (nI (k - cntM (sce (n2 z.1 z.2 i)) i z.2 j))))) (L2 := [(38, .inr (7, [.ref 39, .ref 40, .int bu, .int (nI q), .ref 41, .int (nI n), .ref 42, .int fl, .int fa, .int fw, .int fr, .int rs, .int ac, .ref 43, .ref 44, .ref 45, .ref 46, .ref 47, .ref 48, .ref 49])), (40, .inl (false, 22, (bkF (setTu (n2 z.1 z.2 i) (upd (stu (n2 z.1 z.2 i)) i (nI (k - cntM (sce (n2 z.1 z.2 i)) i z.2 j)))))))]) dX7_burn_246 (by decide) rfl (by omega) (by decide) (bu_tt hi _ _) rfl ?_
                      refine E_iinc (y := nI (j + 1)) (l2 := [.ref 38, .int z.2, .int (nI i), .int (nI (j + 1)), .int 0]) dX7_burn_247 rfl (nI_1 _) (by decide) rfl ?_
                      refine E_goto (tgt := 154) dX7_burn_250 (by decide) ?_
                      have e9 := ihj (.int 0)
                      rw [cM_c c203] at e9
                      exact e9
                    · have c203 := b2i_n0 c203
                      rw [nr_MC (hy.1 i hi) (hy.1 j hj)] at c203
                      refine E_iconst (v := 1) dX7_burn_206 (by decide) ?_
                      refine E_goto (tgt := 211) dX7_burn_207 (by decide) ?_
                      refine E_istore (l2 := [.ref 38, .int z.2, .int (nI i), .int (nI j), .int 1]) dX7_burn_211 (by decide) rfl ?_
                      refine E_aload_n dX7_burn_213 rfl ?_
                      refine E_get dX7_burn_214 fX7_13 (by decide) rfl rfl ?_
                      refine E_bipush (v := 6) dX7_burn_217 (by decide) ?_
                      refine E_iload_n dX7_burn_219 rfl ?_
                      refine E_iadd dX7_burn_220 ?_
                      refine E_eqi (y := nI (6 + i)) (nI_add 6 _) ?_
                      refine E_dup2 dX7_burn_221 rfl rfl ?_
                      refine E_ialdN (j := 6 + i) dX7_burn_222 (by decide) rfl (by omega) (by decide) ?_
                      refine E_eqi (y := nI (k - cntM (sce (n2 z.1 z.2 i)) i z.2 j)) ((bk_t hi).trans upd_eq) ?_
                      refine E_iload dX7_burn_223 rfl ?_
                      refine E_if_eq (tgt := 244) dX7_burn_225 (by decide) (fun c => by first | exact absurd c (by decide) | exact absurd (by decide) c) (fun _ => ?_)
                      refine E_aload_n dX7_burn_228 rfl ?_
                      refine E_get dX7_burn_229 fX7_13 (by decide) rfl rfl ?_
                      refine E_bipush (v := 6) dX7_burn_232 (by decide) ?_
                      refine E_iload_n dX7_burn_234 rfl ?_
                      refine E_iadd dX7_burn_235 ?_
                      refine E_eqi (y := nI (6 + i)) (nI_add 6 _) ?_
                      refine E_ialdN (j := 6 + i) dX7_burn_236 (by decide) rfl (by omega) (by decide) ?_
                      refine E_eqi (y := nI (k - cntM (sce (n2 z.1 z.2 i)) i z.2 j)) ((bk_t hi).trans upd_eq) ?_
                      refine E_if_le (tgt := 244) dX7_burn_237 (by decide) (fun c237 => ?_) (fun c237 => ?_)
                      · have k237 : (k - cntM (sce (n2 z.1 z.2 i)) i z.2 j) = 0 := by
                          rcases Nat.eq_zero_or_pos (k - cntM (sce (n2 z.1 z.2 i)) i z.2 j) with e | e
                          · exact e
                          · exact absurd c237 (nI_nle e (by omega))
                        refine E_iconst (v := 0) dX7_burn_244 (by decide) ?_
                        refine E_isub dX7_burn_245 ?_
                        refine E_eqi (y := nI (k - (cntM (sce (n2 z.1 z.2 i)) i z.2 j + 1))) (by rw [sub0]; exact congrArg nI (by omega)) ?_
                        refine E_iastN (j := 6 + i) (f2 := bkF (setTu (n2 z.1 z.2 i) (upd (stu (n2 z.1 z.2 i)) i (nI (k - (cntM (sce (n2 z.1 z.2 i)) i z.2 j + 1)))))) (L2 := [(38, .inr (7, [.ref 39, .ref 40, .int bu, .int (nI q), .ref 41, .int (nI n), .ref 42, .int fl, .int fa, .int fw, .int fr, .int rs, .int ac, .ref 43, .ref 44, .ref 45, .ref 46, .ref 47, .ref 48, .ref 49])), (40, .inl (false, 22, (bkF (setTu (n2 z.1 z.2 i) (upd (stu (n2 z.1 z.2 i)) i (nI (k - (cntM (sce (n2 z.1 z.2 i)) i z.2 j + 1))))))))]) dX7_burn_246 (by decide) rfl (by omega) (by decide) (bu_tt hi _ _) rfl ?_
                        refine E_iinc (y := nI (j + 1)) (l2 := [.ref 38, .int z.2, .int (nI i), .int (nI (j + 1)), .int 1]) dX7_burn_247 rfl (nI_1 _) (by decide) rfl ?_
                        refine E_goto (tgt := 154) dX7_burn_250 (by decide) ?_
                        have e9 := ihj (.int 1)
                        rw [cM_t k171 c179 c203] at e9
                        exact e9
                      · have k237 : ¬ (k - cntM (sce (n2 z.1 z.2 i)) i z.2 j) = 0 := fun e => c237 (by rw [e]; decide)
                        refine E_iconst (v := 1) dX7_burn_240 (by decide) ?_
                        refine E_goto (tgt := 245) dX7_burn_241 (by decide) ?_
                        refine E_isub dX7_burn_245 ?_
                        refine E_eqi (y := nI (k - (cntM (sce (n2 z.1 z.2 i)) i z.2 j + 1))) ((pk_sub (b := 1) (by omega)).trans (congrArg nI (by omega))) ?_
                        refine E_iastN (j := 6 + i) (f2 := bkF (setTu (n2 z.1 z.2 i) (upd (stu (n2 z.1 z.2 i)) i (nI (k - (cntM (sce (n2 z.1 z.2 i)) i z.2 j + 1)))))) (L2 := [(38, .inr (7, [.ref 39, .ref 40, .int bu, .int (nI q), .ref 41, .int (nI n), .ref 42, .int fl, .int fa, .int fw, .int fr, .int rs, .int ac, .ref 43, .ref 44, .ref 45, .ref 46, .ref 47, .ref 48, .ref 49])), (40, .inl (false, 22, (bkF (setTu (n2 z.1 z.2 i) (upd (stu (n2 z.1 z.2 i)) i (nI (k - (cntM (sce (n2 z.1 z.2 i)) i z.2 j + 1))))))))]) dX7_burn_246 (by decide) rfl (by omega) (by decide) (bu_tt hi _ _) rfl ?_
                        refine E_iinc (y := nI (j + 1)) (l2 := [.ref 38, .int z.2, .int (nI i), .int (nI (j + 1)), .int 1]) dX7_burn_247 rfl (nI_1 _) (by decide) rfl ?_
                        refine E_goto (tgt := 154) dX7_burn_250 (by decide) ?_
                        have e9 := ihj (.int 1)
                        rw [cM_t k171 c179 c203] at e9
                        exact e9
            have e0 := LJ 0 (by decide) l4
            rw [show setTu (n2 z.1 z.2 i) (upd (stu (n2 z.1 z.2 i)) i (nI (k - cntM (sce (n2 z.1 z.2 i)) i z.2 0))) = (n2 z.1 z.2 i) from by rw [show (k - cntM (sce (n2 z.1 z.2 i)) i z.2 0) = k from rfl, ← ek, upd_self]; rfl] at e0
            exact e0
          · have LJ : ∀ j, j ≤ 6 → ∀ l4 : Value, E YX7_burn (d + 2) 154 [.ref 38, .int z.2, .int (nI i), .int (nI j), l4] [] (hov hp [(38, .inr (7, [.ref 39, .ref 40, .int bu, .int (nI q), .ref 41, .int (nI n), .ref 42, .int fl, .int fa, .int fw, .int fr, .int rs, .int ac, .ref 43, .ref 44, .ref 45, .ref 46, .ref 47, .ref 48, .ref 49])), (40, .inl (false, 22, (bkF (n2 z.1 z.2 i))))]) (fun v h' => v = some (.int (ngF s)) ∧ h' = hov hp [(38, .inr (7, [.ref 39, .ref 40, .int bu, .int (nI q), .ref 41, .int (nI n), .ref 42, .int (fl + bcI (ngF s)), .int fa, .int fw, .int fr, .int rs, .int ac, .ref 43, .ref 44, .ref 45, .ref 46, .ref 47, .ref 48, .ref 49])), (40, .inl (false, 22, (bkF (ngS s))))]) := by
              refine down 6 ?_ ?_
              · intro l4
                refine E_iload_n dX7_burn_154 rfl ?_
                refine E_bipush (v := 6) dX7_burn_155 (by decide) ?_
                refine E_icmp_ge (tgt := 253) dX7_burn_157 (by decide) (fun _ => ?_) (fun c => absurd (by decide) c)
                refine E_iinc (y := nI (i + 1)) (l2 := [.ref 38, .int z.2, .int (nI (i + 1)), .int (nI 6), l4]) dX7_burn_253 rfl (nI_1 _) (by decide) rfl ?_
                refine E_goto (tgt := 146) dX7_burn_256 (by decide) ?_
                have e9 := ih (.int (nI 6)) l4
                rw [n2_f ca] at e9
                exact e9
              · intro j hj ihj l4
                refine E_iload_n dX7_burn_154 rfl ?_
                refine E_bipush (v := 6) dX7_burn_155 (by decide) ?_
                refine E_icmp_ge (tgt := 253) dX7_burn_157 (by decide) (fun c => absurd c (cI_nle (n := 6) rfl hj (by decide))) (fun _ => ?_)
                refine E_aload_n dX7_burn_160 rfl ?_
                refine E_get dX7_burn_161 fX7_13 (by decide) rfl rfl ?_
                refine E_iload_n dX7_burn_164 rfl ?_
                refine E_ialdN (j := i) dX7_burn_165 (by decide) rfl (by omega) (by decide) ?_
                refine E_eqi (y := she (n2 z.1 z.2 i) i) (bk_h hi) ?_
                refine E_if_le (tgt := 210) dX7_burn_166 (by decide) (fun _ => ?_) (fun c => absurd (Int32.not_lt.mp ca) c)
                refine E_iconst (v := 0) dX7_burn_210 (by decide) ?_
                refine E_istore (l2 := [.ref 38, .int z.2, .int (nI i), .int (nI j), .int 0]) dX7_burn_211 (by decide) rfl ?_
                refine E_aload_n dX7_burn_213 rfl ?_
                refine E_get dX7_burn_214 fX7_13 (by decide) rfl rfl ?_
                refine E_bipush (v := 6) dX7_burn_217 (by decide) ?_
                refine E_iload_n dX7_burn_219 rfl ?_
                refine E_iadd dX7_burn_220 ?_
                refine E_eqi (y := nI (6 + i)) (nI_add 6 _) ?_
                refine E_dup2 dX7_burn_221 rfl rfl ?_
                refine E_ialdN (j := 6 + i) dX7_burn_222 (by decide) rfl (by omega) (by decide) ?_
                refine E_eqi (y := stu (n2 z.1 z.2 i) i) (bk_t hi) ?_
                refine E_iload dX7_burn_223 rfl ?_
                refine E_if_eq (tgt := 244) dX7_burn_225 (by decide) (fun _ => ?_) (fun c => by first | exact absurd c (by decide) | exact absurd (by decide) c)
                refine E_iconst (v := 0) dX7_burn_244 (by decide) ?_
                refine E_isub dX7_burn_245 ?_
                refine E_eqi (y := stu (n2 z.1 z.2 i) i) (sub0 _) ?_
                refine E_iastN (j := 6 + i) (f2 := bkF (n2 z.1 z.2 i)) (L2 := [(38, .inr (7, [.ref 39, .ref 40, .int bu, .int (nI q), .ref 41, .int (nI n), .ref 42, .int fl, .int fa, .int fw, .int fr, .int rs, .int ac, .ref 43, .ref 44, .ref 45, .ref 46, .ref 47, .ref 48, .ref 49])), (40, .inl (false, 22, (bkF (n2 z.1 z.2 i))))]) dX7_burn_246 (by decide) rfl (by omega) (by decide) ((bu_t hi).trans (by rw [upd_self]; rfl)) rfl ?_
                refine E_iinc (y := nI (j + 1)) (l2 := [.ref 38, .int z.2, .int (nI i), .int (nI (j + 1)), .int 0]) dX7_burn_247 rfl (nI_1 _) (by decide) rfl ?_
                refine E_goto (tgt := 154) dX7_burn_250 (by decide) ?_
                exact ihj _
            exact LJ 0 (by decide) l4
      exact L146 0 (by decide) _ _
    · intro i hi ih l3 l4
      refine E_iload_n dX7_burn_4 rfl ?_
      refine E_bipush (v := 6) dX7_burn_5 (by decide) ?_
      refine E_icmp_ge (tgt := 144) dX7_burn_7 (by decide) (fun c => absurd c (cI_nle (n := 6) rfl hi (by decide))) (fun _ => ?_)
      refine E_aload_n dX7_burn_10 rfl ?_
      refine E_get dX7_burn_11 fX7_13 (by decide) rfl rfl ?_
      refine E_iload_n dX7_burn_14 rfl ?_
      refine E_ialdN (j := i) dX7_burn_15 (by decide) rfl (by omega) (by decide) ?_
      refine E_eqi (y := she (n1 s i).1 i) (bk_h hi) ?_
      refine E_iconst (v := 5) dX7_burn_16 (by decide) ?_
      refine E_iadd dX7_burn_17 ?_
      refine E_aload_n dX7_burn_18 rfl ?_
      refine E_get dX7_burn_19 fX7_13 (by decide) rfl rfl ?_
      refine E_bipush (v := 6) dX7_burn_22 (by decide) ?_
      refine E_iload_n dX7_burn_24 rfl ?_
      refine E_iadd dX7_burn_25 ?_
      refine E_eqi (y := nI (6 + i)) (nI_add 6 _) ?_
      refine E_ialdN (j := 6 + i) dX7_burn_26 (by decide) rfl (by omega) (by decide) ?_
      refine E_eqi (y := stu (n1 s i).1 i) (bk_t hi) ?_
      refine E_isub dX7_burn_27 ?_
      refine E_eqi (y := smX (n1 s i).1 i) rfl ?_
      refine E_istore_n (l2 := [.ref 38, .int ((n1 s i).2), .int (nI i), .int (smX (n1 s i).1 i), l4]) dX7_burn_28 rfl (by decide) rfl ?_
      refine E_aload_n dX7_burn_29 rfl ?_
      refine E_get dX7_burn_30 fX7_13 (by decide) rfl rfl ?_
      refine E_iload_n dX7_burn_33 rfl ?_
      refine E_ialdN (j := i) dX7_burn_34 (by decide) rfl (by omega) (by decide) ?_
      refine E_eqi (y := she (n1 s i).1 i) (bk_h hi) ?_
      refine E_if_le (tgt := 138) dX7_burn_35 (by decide) (fun c35 => ?_) (fun c35 => ?_)
      · have c35 := Int32.not_lt.mpr c35
        refine E_iinc (y := nI (i + 1)) (l2 := [.ref 38, .int ((n1 s i).2), .int (nI (i + 1)), .int (smX (n1 s i).1 i), l4]) dX7_burn_138 rfl (nI_1 _) (by decide) rfl ?_
        refine E_goto (tgt := 4) dX7_burn_141 (by decide) ?_
        have e9 := ih (.int (smX (n1 s i).1 i)) l4
        rw [n1_no c35] at e9
        exact e9
      · have c35 := Int32.not_le.mp c35
        refine E_iload_n dX7_burn_38 rfl ?_
        refine E_bipush (v := 9) dX7_burn_39 (by decide) ?_
        refine E_icmp_le (tgt := 62) dX7_burn_41 (by decide) (fun c41 => ?_) (fun c41 => ?_)
        · refine E_iconst (v := 0) dX7_burn_62 (by decide) ?_
          refine E_istore (l2 := [.ref 38, .int ((n1 s i).2), .int (nI i), .int (smX (n1 s i).1 i), .int 0]) dX7_burn_63 (by decide) rfl ?_
          refine E_iload_n dX7_burn_65 rfl ?_
          refine E_iload dX7_burn_66 rfl ?_
          refine E_if_eq (tgt := 77) dX7_burn_68 (by decide) (fun _ => ?_) (fun c => by first | exact absurd c (by decide) | exact absurd (by decide) c)
          refine E_iconst (v := 0) dX7_burn_77 (by decide) ?_
          refine E_ior dX7_burn_78 ?_
          refine E_eqi (y := (n1 s i).2) (or0 _) ?_
          refine E_istore_n (l2 := [.ref 38, .int ((n1 s i).2), .int (nI i), .int (smX (n1 s i).1 i), .int 0]) dX7_burn_79 rfl (by decide) rfl ?_
          refine E_aload_n dX7_burn_80 rfl ?_
          refine E_get dX7_burn_81 fX7_13 (by decide) rfl rfl ?_
          refine E_bipush (v := 20) dX7_burn_84 (by decide) ?_
          refine E_dup2 dX7_burn_86 rfl rfl ?_
          refine E_ialdN (j := 20) dX7_burn_87 (by decide) rfl (by omega) (by decide) ?_
          refine E_eqi (y := sdr (n1 s i).1) rfl ?_
          refine E_iload_n dX7_burn_88 rfl ?_
          refine E_iconst (v := 1) dX7_burn_89 (by decide) ?_
          refine E_icmp_ge (tgt := 99) dX7_burn_90 (by decide) (fun c90 => ?_) (fun c90 => ?_)
          · have k90 : ¬ smX (n1 s i).1 i ≤ 0 := fun e => absurd (lt1_le0.mpr e) (Int32.not_lt.mpr c90)
            refine E_iconst (v := 0) dX7_burn_99 (by decide) ?_
            refine E_ior dX7_burn_100 ?_
            refine E_eqi (y := sdr (n1 s i).1) (or0 _) ?_
            refine E_iastN (j := 20) (f2 := bkF (mkS (sce ((n1 s i).1)) (she ((n1 s i).1)) (stu ((n1 s i).1)) (skn ((n1 s i).1)) (sdr (n1 s i).1) (swa ((n1 s i).1)) (sbu ((n1 s i).1)) (sni ((n1 s i).1)))) (L2 := [(38, .inr (7, [.ref 39, .ref 40, .int bu, .int (nI q), .ref 41, .int (nI n), .ref 42, .int fl, .int fa, .int fw, .int fr, .int rs, .int ac, .ref 43, .ref 44, .ref 45, .ref 46, .ref 47, .ref 48, .ref 49])), (40, .inl (false, 22, (bkF (mkS (sce ((n1 s i).1)) (she ((n1 s i).1)) (stu ((n1 s i).1)) (skn ((n1 s i).1)) (sdr (n1 s i).1) (swa ((n1 s i).1)) (sbu ((n1 s i).1)) (sni ((n1 s i).1))))))]) dX7_burn_101 (by decide) rfl (by omega) (by decide) bu_20 rfl ?_
            refine E_aload_n dX7_burn_102 rfl ?_
            refine E_get dX7_burn_103 fX7_13 (by decide) rfl rfl ?_
            refine E_iload_n dX7_burn_106 rfl ?_
            refine E_iload_n dX7_burn_107 rfl ?_
            refine E_iconst (v := 1) dX7_burn_108 (by decide) ?_
            refine E_icmp_ge (tgt := 116) dX7_burn_109 (by decide) (fun _ => ?_) (fun c => absurd c90 c)
            refine E_iload_n dX7_burn_116 rfl ?_
            refine E_bipush (v := 10) dX7_burn_117 (by decide) ?_
            refine E_icmp_ge (tgt := 126) dX7_burn_119 (by decide) (fun c => absurd (lt10_le9.mpr c41) (Int32.not_lt.mpr c)) (fun _ => ?_)
            refine E_iload_n dX7_burn_122 rfl ?_
            refine E_goto (tgt := 137) dX7_burn_123 (by decide) ?_
            refine E_iastN (j := i) (f2 := bkF (mkS (sce ((n1 s i).1)) (upd (she (n1 s i).1) i (smX (n1 s i).1 i)) (stu ((n1 s i).1)) (skn ((n1 s i).1)) (sdr (n1 s i).1) (swa ((n1 s i).1)) (sbu ((n1 s i).1)) (sni ((n1 s i).1)))) (L2 := [(38, .inr (7, [.ref 39, .ref 40, .int bu, .int (nI q), .ref 41, .int (nI n), .ref 42, .int fl, .int fa, .int fw, .int fr, .int rs, .int ac, .ref 43, .ref 44, .ref 45, .ref 46, .ref 47, .ref 48, .ref 49])), (40, .inl (false, 22, (bkF (mkS (sce ((n1 s i).1)) (upd (she (n1 s i).1) i (smX (n1 s i).1 i)) (stu ((n1 s i).1)) (skn ((n1 s i).1)) (sdr (n1 s i).1) (swa ((n1 s i).1)) (sbu ((n1 s i).1)) (sni ((n1 s i).1))))))]) dX7_burn_137 (by decide) rfl (by omega) (by decide) (bku_h hi) rfl ?_
            refine E_iinc (y := nI (i + 1)) (l2 := [.ref 38, .int ((n1 s i).2), .int (nI (i + 1)), .int (smX (n1 s i).1 i), .int 0]) dX7_burn_138 rfl (nI_1 _) (by decide) rfl ?_
            refine E_goto (tgt := 4) dX7_burn_141 (by decide) ?_
            have e9 := ih (.int (smX (n1 s i).1 i)) (.int 0)
            rw [n1_A c35 k90 c41] at e9
            exact e9
          · have k90 := lt1_le0.mp (Int32.not_le.mp c90)
            refine E_iconst (v := 1) dX7_burn_93 (by decide) ?_
            refine E_iload_n dX7_burn_94 rfl ?_
            refine E_ishl dX7_burn_95 ?_
            refine E_goto (tgt := 100) dX7_burn_96 (by decide) ?_
            refine E_ior dX7_burn_100 ?_
            refine E_eqi (y := orB (sdr (n1 s i).1) i) rfl ?_
            refine E_iastN (j := 20) (f2 := bkF (mkS (sce ((n1 s i).1)) (she ((n1 s i).1)) (stu ((n1 s i).1)) (skn ((n1 s i).1)) (orB (sdr (n1 s i).1) i) (swa ((n1 s i).1)) (sbu ((n1 s i).1)) (sni ((n1 s i).1)))) (L2 := [(38, .inr (7, [.ref 39, .ref 40, .int bu, .int (nI q), .ref 41, .int (nI n), .ref 42, .int fl, .int fa, .int fw, .int fr, .int rs, .int ac, .ref 43, .ref 44, .ref 45, .ref 46, .ref 47, .ref 48, .ref 49])), (40, .inl (false, 22, (bkF (mkS (sce ((n1 s i).1)) (she ((n1 s i).1)) (stu ((n1 s i).1)) (skn ((n1 s i).1)) (orB (sdr (n1 s i).1) i) (swa ((n1 s i).1)) (sbu ((n1 s i).1)) (sni ((n1 s i).1))))))]) dX7_burn_101 (by decide) rfl (by omega) (by decide) bu_20 rfl ?_
            refine E_aload_n dX7_burn_102 rfl ?_
            refine E_get dX7_burn_103 fX7_13 (by decide) rfl rfl ?_
            refine E_iload_n dX7_burn_106 rfl ?_
            refine E_iload_n dX7_burn_107 rfl ?_
            refine E_iconst (v := 1) dX7_burn_108 (by decide) ?_
            refine E_icmp_ge (tgt := 116) dX7_burn_109 (by decide) (fun c => absurd c c90) (fun _ => ?_)
            refine E_iconst (v := 0) dX7_burn_112 (by decide) ?_
            refine E_goto (tgt := 137) dX7_burn_113 (by decide) ?_
            refine E_iastN (j := i) (f2 := bkF (mkS (sce ((n1 s i).1)) (upd (she (n1 s i).1) i 0) (stu ((n1 s i).1)) (skn ((n1 s i).1)) (orB (sdr (n1 s i).1) i) (swa ((n1 s i).1)) (sbu ((n1 s i).1)) (sni ((n1 s i).1)))) (L2 := [(38, .inr (7, [.ref 39, .ref 40, .int bu, .int (nI q), .ref 41, .int (nI n), .ref 42, .int fl, .int fa, .int fw, .int fr, .int rs, .int ac, .ref 43, .ref 44, .ref 45, .ref 46, .ref 47, .ref 48, .ref 49])), (40, .inl (false, 22, (bkF (mkS (sce ((n1 s i).1)) (upd (she (n1 s i).1) i 0) (stu ((n1 s i).1)) (skn ((n1 s i).1)) (orB (sdr (n1 s i).1) i) (swa ((n1 s i).1)) (sbu ((n1 s i).1)) (sni ((n1 s i).1))))))]) dX7_burn_137 (by decide) rfl (by omega) (by decide) (bku_h hi) rfl ?_
            refine E_iinc (y := nI (i + 1)) (l2 := [.ref 38, .int ((n1 s i).2), .int (nI (i + 1)), .int (smX (n1 s i).1 i), .int 0]) dX7_burn_138 rfl (nI_1 _) (by decide) rfl ?_
            refine E_goto (tgt := 4) dX7_burn_141 (by decide) ?_
            have e9 := ih (.int (smX (n1 s i).1 i)) (.int 0)
            rw [n1_B c35 k90] at e9
            exact e9
        · refine E_aload_n dX7_burn_44 rfl ?_
          refine E_get dX7_burn_45 fX7_13 (by decide) rfl rfl ?_
          refine E_bipush (v := 18) dX7_burn_48 (by decide) ?_
          refine E_ialdN (j := 18) dX7_burn_50 (by decide) rfl (by omega) (by decide) ?_
          refine E_eqi (y := swa (n1 s i).1) rfl ?_
          refine E_iload_n dX7_burn_51 rfl ?_
          refine E_callS (As := [.int (swa (n1 s i).1), .int (nI i)]) (l' := [.int (swa (n1 s i).1), .int (nI i)]) (st := []) dX7_burn_52 kX7_80 sX7_has MX7_has rfl rfl (Nat.le_of_ble_eq_true rfl) (FC.use (c_has (d + 1) _ _) rfl (L2 := [(38, .inr (7, [.ref 39, .ref 40, .int bu, .int (nI q), .ref 41, .int (nI n), .ref 42, .int fl, .int fa, .int fw, .int fr, .int rs, .int ac, .ref 43, .ref 44, .ref 45, .ref 46, .ref 47, .ref 48, .ref 49])), (40, .inl (false, 22, (bkF ((n1 s i).1))))]) rfl) (Nat.le_of_ble_eq_true rfl) (fun _ _ hq9 => E_fgo ?_ hq9)
          show E _ _ 55 [.ref 38, .int ((n1 s i).2), .int (nI i), .int (smX (n1 s i).1 i), l4] [.int (b2i (hbt (swa (n1 s i).1) (nI i)))] (hov hp [(38, .inr (7, [.ref 39, .ref 40, .int bu, .int (nI q), .ref 41, .int (nI n), .ref 42, .int fl, .int fa, .int fw, .int fr, .int rs, .int ac, .ref 43, .ref 44, .ref 45, .ref 46, .ref 47, .ref 48, .ref 49])), (40, .inl (false, 22, (bkF ((n1 s i).1))))]) _
          refine E_if_ne (tgt := 62) dX7_burn_55 (by decide) (fun c55 => ?_) (fun c55 => ?_)
          · have c55 := b2i_n0 c55
            refine E_iconst (v := 0) dX7_burn_62 (by decide) ?_
            refine E_istore (l2 := [.ref 38, .int ((n1 s i).2), .int (nI i), .int (smX (n1 s i).1 i), .int 0]) dX7_burn_63 (by decide) rfl ?_
            refine E_iload_n dX7_burn_65 rfl ?_
            refine E_iload dX7_burn_66 rfl ?_
            refine E_if_eq (tgt := 77) dX7_burn_68 (by decide) (fun _ => ?_) (fun c => by first | exact absurd c (by decide) | exact absurd (by decide) c)
            refine E_iconst (v := 0) dX7_burn_77 (by decide) ?_
            refine E_ior dX7_burn_78 ?_
            refine E_eqi (y := (n1 s i).2) (or0 _) ?_
            refine E_istore_n (l2 := [.ref 38, .int ((n1 s i).2), .int (nI i), .int (smX (n1 s i).1 i), .int 0]) dX7_burn_79 rfl (by decide) rfl ?_
            refine E_aload_n dX7_burn_80 rfl ?_
            refine E_get dX7_burn_81 fX7_13 (by decide) rfl rfl ?_
            refine E_bipush (v := 20) dX7_burn_84 (by decide) ?_
            refine E_dup2 dX7_burn_86 rfl rfl ?_
            refine E_ialdN (j := 20) dX7_burn_87 (by decide) rfl (by omega) (by decide) ?_
            refine E_eqi (y := sdr (n1 s i).1) rfl ?_
            refine E_iload_n dX7_burn_88 rfl ?_
            refine E_iconst (v := 1) dX7_burn_89 (by decide) ?_
            refine E_icmp_ge (tgt := 99) dX7_burn_90 (by decide) (fun c90 => ?_) (fun c90 => ?_)
            · have k90 : ¬ smX (n1 s i).1 i ≤ 0 := fun e => absurd (lt1_le0.mpr e) (Int32.not_lt.mpr c90)
              refine E_iconst (v := 0) dX7_burn_99 (by decide) ?_
              refine E_ior dX7_burn_100 ?_
              refine E_eqi (y := sdr (n1 s i).1) (or0 _) ?_
              refine E_iastN (j := 20) (f2 := bkF (mkS (sce ((n1 s i).1)) (she ((n1 s i).1)) (stu ((n1 s i).1)) (skn ((n1 s i).1)) (sdr (n1 s i).1) (swa ((n1 s i).1)) (sbu ((n1 s i).1)) (sni ((n1 s i).1)))) (L2 := [(38, .inr (7, [.ref 39, .ref 40, .int bu, .int (nI q), .ref 41, .int (nI n), .ref 42, .int fl, .int fa, .int fw, .int fr, .int rs, .int ac, .ref 43, .ref 44, .ref 45, .ref 46, .ref 47, .ref 48, .ref 49])), (40, .inl (false, 22, (bkF (mkS (sce ((n1 s i).1)) (she ((n1 s i).1)) (stu ((n1 s i).1)) (skn ((n1 s i).1)) (sdr (n1 s i).1) (swa ((n1 s i).1)) (sbu ((n1 s i).1)) (sni ((n1 s i).1))))))]) dX7_burn_101 (by decide) rfl (by omega) (by decide) bu_20 rfl ?_
              refine E_aload_n dX7_burn_102 rfl ?_
              refine E_get dX7_burn_103 fX7_13 (by decide) rfl rfl ?_
              refine E_iload_n dX7_burn_106 rfl ?_
              refine E_iload_n dX7_burn_107 rfl ?_
              refine E_iconst (v := 1) dX7_burn_108 (by decide) ?_
              refine E_icmp_ge (tgt := 116) dX7_burn_109 (by decide) (fun _ => ?_) (fun c => absurd c90 c)
              refine E_iload_n dX7_burn_116 rfl ?_
              refine E_bipush (v := 10) dX7_burn_117 (by decide) ?_
              refine E_icmp_ge (tgt := 126) dX7_burn_119 (by decide) (fun _ => ?_) (fun c => absurd (lt10_le9.mp (Int32.not_le.mp c)) c41)
              refine E_iload dX7_burn_126 rfl ?_
              refine E_if_eq (tgt := 136) dX7_burn_128 (by decide) (fun _ => ?_) (fun c => by first | exact absurd c (by decide) | exact absurd (by decide) c)
              refine E_iconst (v := 5) dX7_burn_136 (by decide) ?_
              refine E_iastN (j := i) (f2 := bkF (mkS (sce ((n1 s i).1)) (upd (she (n1 s i).1) i 5) (stu ((n1 s i).1)) (skn ((n1 s i).1)) (sdr (n1 s i).1) (swa ((n1 s i).1)) (sbu ((n1 s i).1)) (sni ((n1 s i).1)))) (L2 := [(38, .inr (7, [.ref 39, .ref 40, .int bu, .int (nI q), .ref 41, .int (nI n), .ref 42, .int fl, .int fa, .int fw, .int fr, .int rs, .int ac, .ref 43, .ref 44, .ref 45, .ref 46, .ref 47, .ref 48, .ref 49])), (40, .inl (false, 22, (bkF (mkS (sce ((n1 s i).1)) (upd (she (n1 s i).1) i 5) (stu ((n1 s i).1)) (skn ((n1 s i).1)) (sdr (n1 s i).1) (swa ((n1 s i).1)) (sbu ((n1 s i).1)) (sni ((n1 s i).1))))))]) dX7_burn_137 (by decide) rfl (by omega) (by decide) (bku_h hi) rfl ?_
              refine E_iinc (y := nI (i + 1)) (l2 := [.ref 38, .int ((n1 s i).2), .int (nI (i + 1)), .int (smX (n1 s i).1 i), .int 0]) dX7_burn_138 rfl (nI_1 _) (by decide) rfl ?_
              refine E_goto (tgt := 4) dX7_burn_141 (by decide) ?_
              have e9 := ih (.int (smX (n1 s i).1 i)) (.int 0)
              rw [n1_C c35 k90 c41 c55] at e9
              exact e9
            · have k90 := lt1_le0.mp (Int32.not_le.mp c90)
              refine E_iconst (v := 1) dX7_burn_93 (by decide) ?_
              refine E_iload_n dX7_burn_94 rfl ?_
              refine E_ishl dX7_burn_95 ?_
              refine E_goto (tgt := 100) dX7_burn_96 (by decide) ?_
              refine E_ior dX7_burn_100 ?_
              refine E_eqi (y := orB (sdr (n1 s i).1) i) rfl ?_
              refine E_iastN (j := 20) (f2 := bkF (mkS (sce ((n1 s i).1)) (she ((n1 s i).1)) (stu ((n1 s i).1)) (skn ((n1 s i).1)) (orB (sdr (n1 s i).1) i) (swa ((n1 s i).1)) (sbu ((n1 s i).1)) (sni ((n1 s i).1)))) (L2 := [(38, .inr (7, [.ref 39, .ref 40, .int bu, .int (nI q), .ref 41, .int (nI n), .ref 42, .int fl, .int fa, .int fw, .int fr, .int rs, .int ac, .ref 43, .ref 44, .ref 45, .ref 46, .ref 47, .ref 48, .ref 49])), (40, .inl (false, 22, (bkF (mkS (sce ((n1 s i).1)) (she ((n1 s i).1)) (stu ((n1 s i).1)) (skn ((n1 s i).1)) (orB (sdr (n1 s i).1) i) (swa ((n1 s i).1)) (sbu ((n1 s i).1)) (sni ((n1 s i).1))))))]) dX7_burn_101 (by decide) rfl (by omega) (by decide) bu_20 rfl ?_
              refine E_aload_n dX7_burn_102 rfl ?_
              refine E_get dX7_burn_103 fX7_13 (by decide) rfl rfl ?_
              refine E_iload_n dX7_burn_106 rfl ?_
              refine E_iload_n dX7_burn_107 rfl ?_
              refine E_iconst (v := 1) dX7_burn_108 (by decide) ?_
              refine E_icmp_ge (tgt := 116) dX7_burn_109 (by decide) (fun c => absurd c c90) (fun _ => ?_)
              refine E_iconst (v := 0) dX7_burn_112 (by decide) ?_
              refine E_goto (tgt := 137) dX7_burn_113 (by decide) ?_
              refine E_iastN (j := i) (f2 := bkF (mkS (sce ((n1 s i).1)) (upd (she (n1 s i).1) i 0) (stu ((n1 s i).1)) (skn ((n1 s i).1)) (orB (sdr (n1 s i).1) i) (swa ((n1 s i).1)) (sbu ((n1 s i).1)) (sni ((n1 s i).1)))) (L2 := [(38, .inr (7, [.ref 39, .ref 40, .int bu, .int (nI q), .ref 41, .int (nI n), .ref 42, .int fl, .int fa, .int fw, .int fr, .int rs, .int ac, .ref 43, .ref 44, .ref 45, .ref 46, .ref 47, .ref 48, .ref 49])), (40, .inl (false, 22, (bkF (mkS (sce ((n1 s i).1)) (upd (she (n1 s i).1) i 0) (stu ((n1 s i).1)) (skn ((n1 s i).1)) (orB (sdr (n1 s i).1) i) (swa ((n1 s i).1)) (sbu ((n1 s i).1)) (sni ((n1 s i).1))))))]) dX7_burn_137 (by decide) rfl (by omega) (by decide) (bku_h hi) rfl ?_
              refine E_iinc (y := nI (i + 1)) (l2 := [.ref 38, .int ((n1 s i).2), .int (nI (i + 1)), .int (smX (n1 s i).1 i), .int 0]) dX7_burn_138 rfl (nI_1 _) (by decide) rfl ?_
              refine E_goto (tgt := 4) dX7_burn_141 (by decide) ?_
              exact absurd (Int32.le_trans k90 (by decide)) c41
          · have c55 := b2i_e0 c55
            refine E_iconst (v := 1) dX7_burn_58 (by decide) ?_
            refine E_goto (tgt := 63) dX7_burn_59 (by decide) ?_
            refine E_istore (l2 := [.ref 38, .int ((n1 s i).2), .int (nI i), .int (smX (n1 s i).1 i), .int 1]) dX7_burn_63 (by decide) rfl ?_
            refine E_iload_n dX7_burn_65 rfl ?_
            refine E_iload dX7_burn_66 rfl ?_
            refine E_if_eq (tgt := 77) dX7_burn_68 (by decide) (fun c => by first | exact absurd c (by decide) | exact absurd (by decide) c) (fun _ => ?_)
            refine E_iconst (v := 1) dX7_burn_71 (by decide) ?_
            refine E_iload_n dX7_burn_72 rfl ?_
            refine E_ishl dX7_burn_73 ?_
            refine E_goto (tgt := 78) dX7_burn_74 (by decide) ?_
            refine E_ior dX7_burn_78 ?_
            refine E_eqi (y := orB (n1 s i).2 i) rfl ?_
            refine E_istore_n (l2 := [.ref 38, .int (orB (n1 s i).2 i), .int (nI i), .int (smX (n1 s i).1 i), .int 1]) dX7_burn_79 rfl (by decide) rfl ?_
            refine E_aload_n dX7_burn_80 rfl ?_
            refine E_get dX7_burn_81 fX7_13 (by decide) rfl rfl ?_
            refine E_bipush (v := 20) dX7_burn_84 (by decide) ?_
            refine E_dup2 dX7_burn_86 rfl rfl ?_
            refine E_ialdN (j := 20) dX7_burn_87 (by decide) rfl (by omega) (by decide) ?_
            refine E_eqi (y := sdr (n1 s i).1) rfl ?_
            refine E_iload_n dX7_burn_88 rfl ?_
            refine E_iconst (v := 1) dX7_burn_89 (by decide) ?_
            refine E_icmp_ge (tgt := 99) dX7_burn_90 (by decide) (fun c90 => ?_) (fun c90 => ?_)
            · have k90 : ¬ smX (n1 s i).1 i ≤ 0 := fun e => absurd (lt1_le0.mpr e) (Int32.not_lt.mpr c90)
              refine E_iconst (v := 0) dX7_burn_99 (by decide) ?_
              refine E_ior dX7_burn_100 ?_
              refine E_eqi (y := sdr (n1 s i).1) (or0 _) ?_
              refine E_iastN (j := 20) (f2 := bkF (mkS (sce ((n1 s i).1)) (she ((n1 s i).1)) (stu ((n1 s i).1)) (skn ((n1 s i).1)) (sdr (n1 s i).1) (swa ((n1 s i).1)) (sbu ((n1 s i).1)) (sni ((n1 s i).1)))) (L2 := [(38, .inr (7, [.ref 39, .ref 40, .int bu, .int (nI q), .ref 41, .int (nI n), .ref 42, .int fl, .int fa, .int fw, .int fr, .int rs, .int ac, .ref 43, .ref 44, .ref 45, .ref 46, .ref 47, .ref 48, .ref 49])), (40, .inl (false, 22, (bkF (mkS (sce ((n1 s i).1)) (she ((n1 s i).1)) (stu ((n1 s i).1)) (skn ((n1 s i).1)) (sdr (n1 s i).1) (swa ((n1 s i).1)) (sbu ((n1 s i).1)) (sni ((n1 s i).1))))))]) dX7_burn_101 (by decide) rfl (by omega) (by decide) bu_20 rfl ?_
              refine E_aload_n dX7_burn_102 rfl ?_
              refine E_get dX7_burn_103 fX7_13 (by decide) rfl rfl ?_
              refine E_iload_n dX7_burn_106 rfl ?_
              refine E_iload_n dX7_burn_107 rfl ?_
              refine E_iconst (v := 1) dX7_burn_108 (by decide) ?_
              refine E_icmp_ge (tgt := 116) dX7_burn_109 (by decide) (fun _ => ?_) (fun c => absurd c90 c)
              refine E_iload_n dX7_burn_116 rfl ?_
              refine E_bipush (v := 10) dX7_burn_117 (by decide) ?_
              refine E_icmp_ge (tgt := 126) dX7_burn_119 (by decide) (fun _ => ?_) (fun c => absurd (lt10_le9.mp (Int32.not_le.mp c)) c41)
              refine E_iload dX7_burn_126 rfl ?_
              refine E_if_eq (tgt := 136) dX7_burn_128 (by decide) (fun c => by first | exact absurd c (by decide) | exact absurd (by decide) c) (fun _ => ?_)
              refine E_bipush (v := 9) dX7_burn_131 (by decide) ?_
              refine E_goto (tgt := 137) dX7_burn_133 (by decide) ?_
              refine E_iastN (j := i) (f2 := bkF (mkS (sce ((n1 s i).1)) (upd (she (n1 s i).1) i 9) (stu ((n1 s i).1)) (skn ((n1 s i).1)) (sdr (n1 s i).1) (swa ((n1 s i).1)) (sbu ((n1 s i).1)) (sni ((n1 s i).1)))) (L2 := [(38, .inr (7, [.ref 39, .ref 40, .int bu, .int (nI q), .ref 41, .int (nI n), .ref 42, .int fl, .int fa, .int fw, .int fr, .int rs, .int ac, .ref 43, .ref 44, .ref 45, .ref 46, .ref 47, .ref 48, .ref 49])), (40, .inl (false, 22, (bkF (mkS (sce ((n1 s i).1)) (upd (she (n1 s i).1) i 9) (stu ((n1 s i).1)) (skn ((n1 s i).1)) (sdr (n1 s i).1) (swa ((n1 s i).1)) (sbu ((n1 s i).1)) (sni ((n1 s i).1))))))]) dX7_burn_137 (by decide) rfl (by omega) (by decide) (bku_h hi) rfl ?_
              refine E_iinc (y := nI (i + 1)) (l2 := [.ref 38, .int (orB (n1 s i).2 i), .int (nI (i + 1)), .int (smX (n1 s i).1 i), .int 1]) dX7_burn_138 rfl (nI_1 _) (by decide) rfl ?_
              refine E_goto (tgt := 4) dX7_burn_141 (by decide) ?_
              have e9 := ih (.int (smX (n1 s i).1 i)) (.int 1)
              rw [n1_D c35 k90 c41 c55] at e9
              exact e9
            · have k90 := lt1_le0.mp (Int32.not_le.mp c90)
              refine E_iconst (v := 1) dX7_burn_93 (by decide) ?_
              refine E_iload_n dX7_burn_94 rfl ?_
              refine E_ishl dX7_burn_95 ?_
              refine E_goto (tgt := 100) dX7_burn_96 (by decide) ?_
              refine E_ior dX7_burn_100 ?_
              refine E_eqi (y := orB (sdr (n1 s i).1) i) rfl ?_
              refine E_iastN (j := 20) (f2 := bkF (mkS (sce ((n1 s i).1)) (she ((n1 s i).1)) (stu ((n1 s i).1)) (skn ((n1 s i).1)) (orB (sdr (n1 s i).1) i) (swa ((n1 s i).1)) (sbu ((n1 s i).1)) (sni ((n1 s i).1)))) (L2 := [(38, .inr (7, [.ref 39, .ref 40, .int bu, .int (nI q), .ref 41, .int (nI n), .ref 42, .int fl, .int fa, .int fw, .int fr, .int rs, .int ac, .ref 43, .ref 44, .ref 45, .ref 46, .ref 47, .ref 48, .ref 49])), (40, .inl (false, 22, (bkF (mkS (sce ((n1 s i).1)) (she ((n1 s i).1)) (stu ((n1 s i).1)) (skn ((n1 s i).1)) (orB (sdr (n1 s i).1) i) (swa ((n1 s i).1)) (sbu ((n1 s i).1)) (sni ((n1 s i).1))))))]) dX7_burn_101 (by decide) rfl (by omega) (by decide) bu_20 rfl ?_
              refine E_aload_n dX7_burn_102 rfl ?_
              refine E_get dX7_burn_103 fX7_13 (by decide) rfl rfl ?_
              refine E_iload_n dX7_burn_106 rfl ?_
              refine E_iload_n dX7_burn_107 rfl ?_
              refine E_iconst (v := 1) dX7_burn_108 (by decide) ?_
              refine E_icmp_ge (tgt := 116) dX7_burn_109 (by decide) (fun c => absurd c c90) (fun _ => ?_)
              refine E_iconst (v := 0) dX7_burn_112 (by decide) ?_
              refine E_goto (tgt := 137) dX7_burn_113 (by decide) ?_
              refine E_iastN (j := i) (f2 := bkF (mkS (sce ((n1 s i).1)) (upd (she (n1 s i).1) i 0) (stu ((n1 s i).1)) (skn ((n1 s i).1)) (orB (sdr (n1 s i).1) i) (swa ((n1 s i).1)) (sbu ((n1 s i).1)) (sni ((n1 s i).1)))) (L2 := [(38, .inr (7, [.ref 39, .ref 40, .int bu, .int (nI q), .ref 41, .int (nI n), .ref 42, .int fl, .int fa, .int fw, .int fr, .int rs, .int ac, .ref 43, .ref 44, .ref 45, .ref 46, .ref 47, .ref 48, .ref 49])), (40, .inl (false, 22, (bkF (mkS (sce ((n1 s i).1)) (upd (she (n1 s i).1) i 0) (stu ((n1 s i).1)) (skn ((n1 s i).1)) (orB (sdr (n1 s i).1) i) (swa ((n1 s i).1)) (sbu ((n1 s i).1)) (sni ((n1 s i).1))))))]) dX7_burn_137 (by decide) rfl (by omega) (by decide) (bku_h hi) rfl ?_
              refine E_iinc (y := nI (i + 1)) (l2 := [.ref 38, .int (orB (n1 s i).2 i), .int (nI (i + 1)), .int (smX (n1 s i).1 i), .int 1]) dX7_burn_138 rfl (nI_1 _) (by decide) rfl ?_
              refine E_goto (tgt := 4) dX7_burn_141 (by decide) ?_
              exact absurd (Int32.le_trans k90 (by decide)) c41
  exact L4 0 (by decide) _ _

set_option maxHeartbeats 4000000 in
set_option maxRecDepth 20000 in
theorem m_night1 (d : Nat) (bu fl fa fw fr rs ac : Int32) (q n : Nat) (t : CS) (h99 : sni t = 99) : FC YX7_endNight (d + 3) [.ref 38] [(38, .inr (7, [.ref 39, .ref 40, .int bu, .int (nI q), .ref 41, .int (nI n), .ref 42, .int fl, .int fa, .int fw, .int fr, .int rs, .int ac, .ref 43, .ref 44, .ref 45, .ref 46, .ref 47, .ref 48, .ref 49])), (40, .inl (false, 22, (bkF t)))] (some (.int (rsn t 5 0 0))) [(38, .inr (7, [.ref 39, .ref 40, .int bu, .int (nI q), .ref 41, .int (nI n), .ref 42, .int fl, .int fa, .int fw, .int fr, .int rs, .int ac, .ref 43, .ref 44, .ref 45, .ref 46, .ref 47, .ref 48, .ref 49])), (40, .inl (false, 22, (bkF t)))] := by
  intro hp
  refine E_aload_n dX7_endNight_0 rfl ?_
  refine E_get dX7_endNight_1 fX7_13 (by decide) rfl rfl ?_
  refine E_bipush (v := 21) dX7_endNight_4 (by decide) ?_
  refine E_ialdN (j := 21) dX7_endNight_6 (by decide) rfl (by omega) (by decide) ?_
  refine E_eqi (y := sni t) rfl ?_
  refine E_bipush (v := 99) dX7_endNight_7 (by decide) ?_
  refine E_icmp_ne (tgt := 15) dX7_endNight_9 (by decide) (fun c => absurd h99 c) (fun _ => ?_)
  refine E_bipush (v := 7) dX7_endNight_12 (by decide) ?_
  exact E_iretf dX7_endNight_14 rfl rfl (by simp only [rsn]; rw [if_neg (by rw [h99]; decide)]) rfl

set_option maxHeartbeats 4000000 in
set_option maxRecDepth 20000 in
theorem m_night0 (d : Nat) (bu fl fa fw fr rs ac : Int32) (q n : Nat) (t : CS) (hs : OkS t) (hn : sni t < 99) : FC YX7_endNight (d + 3) [.ref 38] [(38, .inr (7, [.ref 39, .ref 40, .int bu, .int (nI q), .ref 41, .int (nI n), .ref 42, .int fl, .int fa, .int fw, .int fr, .int rs, .int ac, .ref 43, .ref 44, .ref 45, .ref 46, .ref 47, .ref 48, .ref 49])), (40, .inl (false, 22, (bkF t)))] (some (.int (rsn t 5 0 0))) [(38, .inr (7, [.ref 39, .ref 40, .int bu, .int (nI q), .ref 41, .int (nI n), .ref 42, .int (fl + bcI (ngF t)), .int fa, .int fw, .int (ngF t), .int rs, .int ac, .ref 43, .ref 44, .ref 45, .ref 46, .ref 47, .ref 48, .ref 49])), (40, .inl (false, 22, (bkF (ngS t))))] := by
  intro hp
  refine E_aload_n dX7_endNight_0 rfl ?_
  refine E_get dX7_endNight_1 fX7_13 (by decide) rfl rfl ?_
  refine E_bipush (v := 21) dX7_endNight_4 (by decide) ?_
  refine E_ialdN (j := 21) dX7_endNight_6 (by decide) rfl (by omega) (by decide) ?_
  refine E_eqi (y := sni t) rfl ?_
  refine E_bipush (v := 99) dX7_endNight_7 (by decide) ?_
  refine E_icmp_ne (tgt := 15) dX7_endNight_9 (by decide) (fun _ => ?_) (fun c => absurd c (fun e => by rw [e] at hn; exact absurd hn (by decide)))
  refine E_aload_n dX7_endNight_15 rfl ?_
  refine E_get dX7_endNight_16 fX7_13 (by decide) rfl rfl ?_
  refine E_bipush (v := 21) dX7_endNight_19 (by decide) ?_
  refine E_dup2 dX7_endNight_21 rfl rfl ?_
  refine E_ialdN (j := 21) dX7_endNight_22 (by decide) rfl (by omega) (by decide) ?_
  refine E_eqi (y := sni t) rfl ?_
  refine E_iconst (v := 1) dX7_endNight_23 (by decide) ?_
  refine E_iadd dX7_endNight_24 ?_
  refine E_iastN (j := 21) (f2 := bkF (n1 t 0).1) (L2 := [(38, .inr (7, [.ref 39, .ref 40, .int bu, .int (nI q), .ref 41, .int (nI n), .ref 42, .int fl, .int fa, .int fw, .int fr, .int rs, .int ac, .ref 43, .ref 44, .ref 45, .ref 46, .ref 47, .ref 48, .ref 49])), (40, .inl (false, 22, (bkF (n1 t 0).1)))]) dX7_endNight_25 (by decide) rfl (by omega) (by decide) bu_21 rfl ?_
  refine E_aload_n dX7_endNight_26 rfl ?_
  refine E_aload_n dX7_endNight_27 rfl ?_
  refine E_callV (As := []) (l' := [.ref 38, .null, .null, .null, .null]) (st := [.ref 38]) dX7_endNight_28 kX7_87 iX7_burn vX7_burn (by decide) rfl rfl MX7_burn rfl rfl (Nat.le_of_ble_eq_true rfl) (FC.use (m_burn d bu fl fa fw fr rs ac q n t hs hn) rfl (L2 := [(38, .inr (7, [.ref 39, .ref 40, .int bu, .int (nI q), .ref 41, .int (nI n), .ref 42, .int (fl + bcI (ngF t)), .int fa, .int fw, .int fr, .int rs, .int ac, .ref 43, .ref 44, .ref 45, .ref 46, .ref 47, .ref 48, .ref 49])), (40, .inl (false, 22, (bkF (ngS t))))]) rfl) (Nat.le_of_ble_eq_true rfl) (fun _ _ hq9 => E_fgo ?_ hq9)
  show E _ _ 31 [.ref 38] [.int (ngF t), .ref 38] (hov hp [(38, .inr (7, [.ref 39, .ref 40, .int bu, .int (nI q), .ref 41, .int (nI n), .ref 42, .int (fl + bcI (ngF t)), .int fa, .int fw, .int fr, .int rs, .int ac, .ref 43, .ref 44, .ref 45, .ref 46, .ref 47, .ref 48, .ref 49])), (40, .inl (false, 22, (bkF (ngS t))))]) _
  refine E_puti (fs2 := [.ref 39, .ref 40, .int bu, .int (nI q), .ref 41, .int (nI n), .ref 42, .int (fl + bcI (ngF t)), .int fa, .int fw, .int (ngF t), .int rs, .int ac, .ref 43, .ref 44, .ref 45, .ref 46, .ref 47, .ref 48, .ref 49]) (L2 := [(38, .inr (7, [.ref 39, .ref 40, .int bu, .int (nI q), .ref 41, .int (nI n), .ref 42, .int (fl + bcI (ngF t)), .int fa, .int fw, .int (ngF t), .int rs, .int ac, .ref 43, .ref 44, .ref 45, .ref 46, .ref 47, .ref 48, .ref 49])), (40, .inl (false, 22, (bkF (ngS t))))]) dX7_endNight_31 fX7_90 fpX7_10 (by decide) rfl (Nat.le_of_ble_eq_true rfl) rfl rfl ?_
  refine E_iconst (v := 0) dX7_endNight_34 (by decide) ?_
  exact E_iretf dX7_endNight_35 rfl rfl (by simp only [rsn]; rw [if_pos hn]) rfl
