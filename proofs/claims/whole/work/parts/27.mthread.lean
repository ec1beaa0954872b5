/-! threads, by their codes -/
def ftF (sn sc : Nat → Int32) (c j : Nat) : Bool := decide (c % 10 < 7) && fitB sn sc j (c / 10) (c % 10)
theorem ft_s {sn sc : Nat → Int32} {c j : Nat} (h : ftF sn sc c j = true) : ftF sn sc c (j + 1) = fitP sn sc (c / 10) (c % 10) j := by
  rw [ftF, Bool.and_eq_true] at h
  rw [ftF, h.1, fitB, allB, show allB (fitP sn sc (c / 10) (c % 10)) j = true from h.2]
  rfl
theorem ft_n {sn sc : Nat → Int32} {c j : Nat} (h : ftF sn sc c j = false) : ftF sn sc c (j + 1) = false := by
  rw [ftF, fitB, allB, ← Bool.and_assoc]
  rw [ftF, fitB] at h
  rw [h]; rfl
theorem ft_x {sn sc : Nat → Int32} {c j : Nat} (h : ftF sn sc c j = false) : ∀ k, ftF sn sc c (j + k) = false
  | 0 => h
  | k + 1 => ft_n (ft_x h k)
theorem ft_stop {sn sc : Nat → Int32} {c j q : Nat} (h : ftF sn sc c j = false) (hj : j ≤ q) : ftF sn sc c j = ftF sn sc c q := by
  have := ft_x h (q - j)
  rw [show j + (q - j) = q by omega] at this
  rw [h, this]
def gL (p : Nat → Nat → Bool) : Nat → List Nat
  | 0 => []
  | c + 1 => gL p c ++ (bif decide (c % 10 < 7) && p (c / 10) (c % 10) then [c] else [])
theorem gL_t {sn sc : Nat → Int32} {q c : Nat} (h : ftF sn sc c q = true) : gL (fitB sn sc q) (c + 1) = gL (fitB sn sc q) c ++ [c] := by
  rw [ftF] at h
  rw [gL, h]; rfl
theorem gL_f {sn sc : Nat → Int32} {q c : Nat} (h : ftF sn sc c q = false) : gL (fitB sn sc q) (c + 1) = gL (fitB sn sc q) c := by
  rw [ftF] at h
  rw [gL, h]; exact List.append_nil _
theorem gl_t {sn sc : Nat → Int32} {q c : Nat} (h : ftF sn sc c q = true) : (gL (fitB sn sc q) (c + 1)).length = (gL (fitB sn sc q) c).length + 1 := by
  rw [gL_t h, List.length_append]; rfl
theorem gl_f {sn sc : Nat → Int32} {q c : Nat} (h : ftF sn sc c q = false) : (gL (fitB sn sc q) (c + 1)).length = (gL (fitB sn sc q) c).length := by
  rw [gL_f h]
theorem gL_le (p : Nat → Nat → Bool) : ∀ c, (gL p c).length ≤ c
  | 0 => Nat.le_refl _
  | c + 1 => by
    have := gL_le p c
    rw [gL, List.length_append]
    cases (decide (c % 10 < 7) && p (c / 10) (c % 10)) <;> simp <;> omega
theorem gL_fc (p : Nat → Nat → Bool) : ∀ c, gL p c = fcL p (7 * (c / 10) + min (c % 10) 7)
  | 0 => rfl
  | c + 1 => by
    rw [gL, gL_fc p c]
    by_cases h : c % 10 < 7
    · have e : 7 * ((c + 1) / 10) + min ((c + 1) % 10) 7 = 7 * (c / 10) + min (c % 10) 7 + 1 := by omega
      rw [e, fcL, show (7 * (c / 10) + min (c % 10) 7) / 7 = c / 10 by omega, show (7 * (c / 10) + min (c % 10) 7) % 7 = c % 10 by omega, decide_eq_true h, Bool.true_and, show 10 * (c / 10) + c % 10 = c by omega]
    · have e : 7 * ((c + 1) / 10) + min ((c + 1) % 10) 7 = 7 * (c / 10) + min (c % 10) 7 := by omega
      rw [e, decide_eq_false h, Bool.false_and]
      exact List.append_nil _
theorem gL_70 {p : Nat → Nat → Bool} {c : Nat} (hc : c = 70) : gL p c = fcL p 49 := by
  rw [gL_fc p c, show 7 * (c / 10) + min (c % 10) 7 = 49 by omega]
theorem gL_gt {sn sc : Nat → Int32} {q c : Nat} (h : ftF sn sc c q = true) : ∀ k, (gL (fitB sn sc q) (c + 1 + k)).getD (gL (fitB sn sc q) c).length 0 = c ∧ (gL (fitB sn sc q) c).length < (gL (fitB sn sc q) (c + 1 + k)).length
  | 0 => by
    rw [Nat.add_zero, gL_t h]
    refine ⟨?_, by rw [List.length_append]; exact Nat.lt_succ_self _⟩
    simp
  | k + 1 => by
    obtain ⟨e, l⟩ := gL_gt h k
    rw [show c + 1 + (k + 1) = c + 1 + k + 1 from rfl]
    cases g : ftF sn sc (c + 1 + k) q with
    | false => rw [gL_f g]; exact ⟨e, l⟩
    | true =>
      rw [gL_t g]
      refine ⟨?_, by rw [List.length_append]; omega⟩
      rw [List.getD_eq_getElem?_getD, List.getElem?_append_left l, ← List.getD_eq_getElem?_getD]
      exact e
theorem gL_at {sn sc : Nat → Int32} {q c : Nat} (h : ftF sn sc c q = true) (hc : c < 70) : (fcL (fitB sn sc q) 49).getD (gL (fitB sn sc q) c).length 0 = c ∧ (gL (fitB sn sc q) c).length < (fcL (fitB sn sc q) 49).length := by
  have := gL_gt h (69 - c)
  rw [gL_70 (show c + 1 + (69 - c) = 70 by omega)] at this
  exact this
theorem gL_ml {sn sc : Nat → Int32} {q c : Nat} (hc : c ≤ 70) : (gL (fitB sn sc q) c).length ≤ (fcL (fitB sn sc q) 49).length := by
  have : ∀ k, (gL (fitB sn sc q) c).length ≤ (gL (fitB sn sc q) (c + k)).length := fun k => by
    induction k with
    | zero => exact Nat.le_refl _
    | succ k ih =>
      rw [show c + (k + 1) = c + k + 1 from rfl]
      cases g : ftF sn sc (c + k) q with
      | false => rw [gl_f g]; exact ih
      | true => rw [gl_t g]; omega
  have h := this (70 - c)
  rw [gL_70 (show c + (70 - c) = 70 by omega)] at h
  exact h

set_option maxHeartbeats 4000000 in
set_option maxRecDepth 20000 in
theorem m_colour (d : Nat) (c : Nat) (hc : c < 70) (x : Int32) : FC YX7_colour d [.int (nI c), .int x] [] (some (.int (colI (nI (c / 10)) (nI (c % 10)) x))) [] := by
  intro hp
  refine E_iload_n dX7_colour_0 rfl ?_
  refine E_bipush (v := 10) dX7_colour_1 (by decide) ?_
  refine E_idiv dX7_colour_3 (by decide) ?_
  refine E_eqi (y := nI (c / 10)) (nI_d (by omega) (by decide) (by decide)) ?_
  refine E_iload_n dX7_colour_4 rfl ?_
  refine E_bipush (v := 10) dX7_colour_5 (by decide) ?_
  refine E_irem dX7_colour_7 (by decide) ?_
  refine E_eqi (y := nI (c % 10)) (nI_r (by omega) (by decide) (by decide)) ?_
  refine E_iload_n dX7_colour_8 rfl ?_
  refine E_imul dX7_colour_9 ?_
  refine E_iadd dX7_colour_10 ?_
  refine E_bipush (v := 7) dX7_colour_11 (by decide) ?_
  refine E_irem dX7_colour_13 (by decide) ?_
  exact E_iretf dX7_colour_14 rfl rfl rfl rfl

set_option maxHeartbeats 4000000 in
set_option maxRecDepth 20000 in
theorem m_isFit (d : Nat) (bu fl fa fw fr rs ac : Int32) (q n : Nat) (sn sc : Nat → Int32) (hq : q ≤ 8) (c : Nat) (hc : c < 70) : FC YX7_isFit (d + 1) [.ref 38, .int (nI c), .null, .null] [(38, .inr (7, [.ref 39, .ref 40, .int bu, .int (nI q), .ref 41, .int (nI n), .ref 42, .int fl, .int fa, .int fw, .int fr, .int rs, .int ac, .ref 43, .ref 44, .ref 45, .ref 46, .ref 47, .ref 48, .ref 49])), (41, .inl (false, 16, (sgF sn sc)))] (some (.int (b2i (ftF sn sc c q)))) [(38, .inr (7, [.ref 39, .ref 40, .int bu, .int (nI q), .ref 41, .int (nI n), .ref 42, .int fl, .int fa, .int fw, .int fr, .int rs, .int ac, .ref 43, .ref 44, .ref 45, .ref 46, .ref 47, .ref 48, .ref 49])), (41, .inl (false, 16, (sgF sn sc)))] := by
  intro hp
  have L : ∀ j, j ≤ q → E YX7_isFit (d + 1) 17 [.ref 38, .int (nI c), .int (b2i (ftF sn sc c j)), .int (nI j)] [] (hov hp [(38, .inr (7, [.ref 39, .ref 40, .int bu, .int (nI q), .ref 41, .int (nI n), .ref 42, .int fl, .int fa, .int fw, .int fr, .int rs, .int ac, .ref 43, .ref 44, .ref 45, .ref 46, .ref 47, .ref 48, .ref 49])), (41, .inl (false, 16, (sgF sn sc)))]) (fun v h' => v = some (.int (b2i (ftF sn sc c q))) ∧ h' = hov hp [(38, .inr (7, [.ref 39, .ref 40, .int bu, .int (nI q), .ref 41, .int (nI n), .ref 42, .int fl, .int fa, .int fw, .int fr, .int rs, .int ac, .ref 43, .ref 44, .ref 45, .ref 46, .ref 47, .ref 48, .ref 49])), (41, .inl (false, 16, (sgF sn sc)))]) := by
    refine down q ?_ ?_
    · refine E_iload_n dX7_isFit_17 rfl ?_
      refine E_aload_n dX7_isFit_18 rfl ?_
      refine E_get dX7_isFit_19 fX7_131 (by decide) rfl rfl ?_
      refine E_icmp_ge (tgt := 66) dX7_isFit_22 (by decide) (fun _ => ?_) (fun c => absurd (nI_le (Nat.le_refl _) (by omega)) c)
      refine E_iload_n dX7_isFit_66 rfl ?_
      exact E_iretf dX7_isFit_67 rfl (b2i_nar _) rfl rfl
    · intro j hj ih
      refine E_iload_n dX7_isFit_17 rfl ?_
      refine E_aload_n dX7_isFit_18 rfl ?_
      refine E_get dX7_isFit_19 fX7_131 (by decide) rfl rfl ?_
      refine E_icmp_ge (tgt := 66) dX7_isFit_22 (by decide) (fun c => absurd c (nI_ge hj (by omega))) (fun _ => ?_)
      refine E_iload_n dX7_isFit_25 rfl ?_
      refine E_if_eq (tgt := 66) dX7_isFit_26 (by decide) (fun c26 => ?_) (fun c26 => ?_)
      · have c26 := b2i_e0 c26
        refine E_iload_n dX7_isFit_66 rfl ?_
        exact E_iretf dX7_isFit_67 rfl (b2i_nar _) (congrArg b2i (ft_stop c26 (by omega))) rfl
      · have c26 := b2i_n0 c26
        refine E_iload_n dX7_isFit_29 rfl ?_
        refine E_aload_n dX7_isFit_30 rfl ?_
        refine E_get dX7_isFit_31 fX7_20 (by decide) rfl rfl ?_
        refine E_iconst (v := 2) dX7_isFit_34 (by decide) ?_
        refine E_iload_n dX7_isFit_35 rfl ?_
        refine E_imul dX7_isFit_36 ?_
        refine E_eqi (y := nI (2 * j)) (pk_mul (a := 2) (b := j)) ?_
        refine E_ialdN (j := 2 * j) dX7_isFit_37 (by decide) rfl (by omega) (by decide) ?_
        refine E_eqi (y := sn j) (sg_0 (by omega)) ?_
        refine E_callS (As := [.int (nI c), .int (sn j)]) (l' := [.int (nI c), .int (sn j)]) (st := []) dX7_isFit_38 kX7_134 sX7_colour MX7_colour rfl rfl (Nat.le_of_ble_eq_true rfl) (FC.use (m_colour d c (by omega) (sn j)) rfl (L2 := [(38, .inr (7, [.ref 39, .ref 40, .int bu, .int (nI q), .ref 41, .int (nI n), .ref 42, .int fl, .int fa, .int fw, .int fr, .int rs, .int ac, .ref 43, .ref 44, .ref 45, .ref 46, .ref 47, .ref 48, .ref 49])), (41, .inl (false, 16, (sgF sn sc)))]) rfl) (Nat.le_of_ble_eq_true rfl) (fun _ _ hq9 => E_fgo ?_ hq9)
        show E _ _ 41 [.ref 38, .int (nI c), .int (b2i (ftF sn sc c j)), .int (nI j)] [.int (colI (nI (c / 10)) (nI (c % 10)) (sn j))] (hov hp [(38, .inr (7, [.ref 39, .ref 40, .int bu, .int (nI q), .ref 41, .int (nI n), .ref 42, .int fl, .int fa, .int fw, .int fr, .int rs, .int ac, .ref 43, .ref 44, .ref 45, .ref 46, .ref 47, .ref 48, .ref 49])), (41, .inl (false, 16, (sgF sn sc)))]) _
        refine E_aload_n dX7_isFit_41 rfl ?_
        refine E_get dX7_isFit_42 fX7_20 (by decide) rfl rfl ?_
        refine E_iconst (v := 2) dX7_isFit_45 (by decide) ?_
        refine E_iload_n dX7_isFit_46 rfl ?_
        refine E_imul dX7_isFit_47 ?_
        refine E_eqi (y := nI (2 * j)) (pk_mul (a := 2) (b := j)) ?_
        refine E_iconst (v := 1) dX7_isFit_48 (by decide) ?_
        refine E_iadd dX7_isFit_49 ?_
        refine E_eqi (y := nI (2 * j + 1)) (nI_1 _) ?_
        refine E_ialdN (j := 2 * j + 1) dX7_isFit_50 (by decide) rfl (by omega) (by decide) ?_
        refine E_eqi (y := sc j) (sg_1 (by omega)) ?_
        refine E_icmp_ne (tgt := 58) dX7_isFit_51 (by decide) (fun c51 => ?_) (fun c51 => ?_)
        · refine E_iconst (v := 0) dX7_isFit_58 (by decide) ?_
          refine E_istore_n (l2 := [.ref 38, .int (nI c), .int 0, .int (nI j)]) dX7_isFit_59 rfl (by decide) rfl ?_
          refine E_iinc (y := nI (j + 1)) (l2 := [.ref 38, .int (nI c), .int 0, .int (nI (j + 1))]) dX7_isFit_60 rfl (nI_1 _) (by decide) rfl ?_
          refine E_goto (tgt := 17) dX7_isFit_63 (by decide) ?_
          have e9 := ih
          rw [show ftF sn sc c (j + 1) = false from by rw [ft_s c26]; exact decide_eq_false c51] at e9
          exact e9
        · refine E_iconst (v := 1) dX7_isFit_54 (by decide) ?_
          refine E_goto (tgt := 59) dX7_isFit_55 (by decide) ?_
          refine E_istore_n (l2 := [.ref 38, .int (nI c), .int 1, .int (nI j)]) dX7_isFit_59 rfl (by decide) rfl ?_
          refine E_iinc (y := nI (j + 1)) (l2 := [.ref 38, .int (nI c), .int 1, .int (nI (j + 1))]) dX7_isFit_60 rfl (nI_1 _) (by decide) rfl ?_
          refine E_goto (tgt := 17) dX7_isFit_63 (by decide) ?_
          have e9 := ih
          rw [show ftF sn sc c (j + 1) = true from by rw [ft_s c26]; exact decide_eq_true c51] at e9
          exact e9
  refine E_iload_n dX7_isFit_0 rfl ?_
  refine E_bipush (v := 10) dX7_isFit_1 (by decide) ?_
  refine E_irem dX7_isFit_3 (by decide) ?_
  refine E_eqi (y := nI (c % 10)) (nI_r (by omega) (by decide) (by decide)) ?_
  refine E_bipush (v := 7) dX7_isFit_4 (by decide) ?_
  refine E_icmp_ge (tgt := 13) dX7_isFit_6 (by decide) (fun c6 => ?_) (fun c6 => ?_)
  · have cb : ¬ c % 10 < 7 := fun h => cI_nle (n := 7) rfl h (by decide) c6
    refine E_iconst (v := 0) dX7_isFit_13 (by decide) ?_
    refine E_istore_n (l2 := [.ref 38, .int (nI c), .int 0, .null]) dX7_isFit_14 rfl (by decide) rfl ?_
    refine E_iconst (v := 0) dX7_isFit_15 (by decide) ?_
    refine E_istore_n (l2 := [.ref 38, .int (nI c), .int 0, .int 0]) dX7_isFit_16 rfl (by decide) rfl ?_
    have e9 := L 0 (by omega)
    rw [show ftF sn sc c 0 = false from by rw [ftF, decide_eq_false cb]; rfl] at e9
    exact e9
  · have cb : c % 10 < 7 := Nat.lt_of_not_le (fun h => c6 (cI_le (n := 7) rfl h (by omega)))
    refine E_iconst (v := 1) dX7_isFit_9 (by decide) ?_
    refine E_goto (tgt := 14) dX7_isFit_10 (by decide) ?_
    refine E_istore_n (l2 := [.ref 38, .int (nI c), .int 1, .null]) dX7_isFit_14 rfl (by decide) rfl ?_
    refine E_iconst (v := 0) dX7_isFit_15 (by decide) ?_
    refine E_istore_n (l2 := [.ref 38, .int (nI c), .int 1, .int 0]) dX7_isFit_16 rfl (by decide) rfl ?_
    have e9 := L 0 (by omega)
    rw [show ftF sn sc c 0 = true from by rw [ftF, decide_eq_true cb]; rfl] at e9
    exact e9

set_option maxHeartbeats 4000000 in
set_option maxRecDepth 20000 in
theorem m_mat_all (d : Nat) (bu fl fa fw fr rs ac : Int32) (q n : Nat) (sn sc : Nat → Int32) (hq : q ≤ 8) : FC YX7_matter (d + 2) [.ref 38, .int (-1), .null, .null] [(38, .inr (7, [.ref 39, .ref 40, .int bu, .int (nI q), .ref 41, .int (nI n), .ref 42, .int fl, .int fa, .int fw, .int fr, .int rs, .int ac, .ref 43, .ref 44, .ref 45, .ref 46, .ref 47, .ref 48, .ref 49])), (41, .inl (false, 16, (sgF sn sc)))] (some (.int (nI ((fcL (fitB sn sc q) 49).length)))) [(38, .inr (7, [.ref 39, .ref 40, .int bu, .int (nI q), .ref 41, .int (nI n), .ref 42, .int fl, .int fa, .int fw, .int fr, .int rs, .int ac, .ref 43, .ref 44, .ref 45, .ref 46, .ref 47, .ref 48, .ref 49])), (41, .inl (false, 16, (sgF sn sc)))] := by
  intro hp
  have L : ∀ c, c ≤ 70 → E YX7_matter (d + 2) 4 [.ref 38, .int (-1), .int (nI ((gL (fitB sn sc q) c).length)), .int (nI c)] [] (hov hp [(38, .inr (7, [.ref 39, .ref 40, .int bu, .int (nI q), .ref 41, .int (nI n), .ref 42, .int fl, .int fa, .int fw, .int fr, .int rs, .int ac, .ref 43, .ref 44, .ref 45, .ref 46, .ref 47, .ref 48, .ref 49])), (41, .inl (false, 16, (sgF sn sc)))]) (fun v h' => v = some (.int (nI ((fcL (fitB sn sc q) 49).length))) ∧ h' = hov hp [(38, .inr (7, [.ref 39, .ref 40, .int bu, .int (nI q), .ref 41, .int (nI n), .ref 42, .int fl, .int fa, .int fw, .int fr, .int rs, .int ac, .ref 43, .ref 44, .ref 45, .ref 46, .ref 47, .ref 48, .ref 49])), (41, .inl (false, 16, (sgF sn sc)))]) := by
    refine down 70 ?_ ?_
    · refine E_iload_n dX7_matter_4 rfl ?_
      refine E_bipush (v := 70) dX7_matter_5 (by decide) ?_
      refine E_icmp_ge (tgt := 34) dX7_matter_7 (by decide) (fun _ => ?_) (fun c => absurd (by decide) c)
      refine E_iload_n dX7_matter_34 rfl ?_
      refine E_iconst (v := (-1)) dX7_matter_35 (by decide) ?_
      refine E_icmp_ne (tgt := 43) dX7_matter_36 (by decide) (fun c => by first | exact absurd c (by decide) | exact absurd (by decide) c) (fun _ => ?_)
      refine E_iload_n dX7_matter_39 rfl ?_
      refine E_goto (tgt := 45) dX7_matter_40 (by decide) ?_
      exact E_iretf dX7_matter_45 rfl rfl (by rw [gL_70 rfl]) rfl
    · intro c hi ih
      have hgl := gL_le (fitB sn sc q) c
      refine E_iload_n dX7_matter_4 rfl ?_
      refine E_bipush (v := 70) dX7_matter_5 (by decide) ?_
      refine E_icmp_ge (tgt := 34) dX7_matter_7 (by decide) (fun c => absurd c (cI_nle (n := 70) rfl hi (by decide))) (fun _ => ?_)
      refine E_aload_n dX7_matter_10 rfl ?_
      refine E_iload_n dX7_matter_11 rfl ?_
      refine E_callV (As := [.int (nI c)]) (l' := [.ref 38, .int (nI c), .null, .null]) (st := []) dX7_matter_12 kX7_137 iX7_isFit vX7_isFit (by decide) rfl rfl MX7_isFit rfl rfl (Nat.le_of_ble_eq_true rfl) (FC.use (m_isFit d bu fl fa fw fr rs ac q n sn sc hq c (by omega)) rfl (L2 := [(38, .inr (7, [.ref 39, .ref 40, .int bu, .int (nI q), .ref 41, .int (nI n), .ref 42, .int fl, .int fa, .int fw, .int fr, .int rs, .int ac, .ref 43, .ref 44, .ref 45, .ref 46, .ref 47, .ref 48, .ref 49])), (41, .inl (false, 16, (sgF sn sc)))]) rfl) (Nat.le_of_ble_eq_true rfl) (fun _ _ hq9 => E_fgo ?_ hq9)
      show E _ _ 15 [.ref 38, .int (-1), .int (nI ((gL (fitB sn sc q) c).length)), .int (nI c)] [.int (b2i (ftF sn sc c q))] (hov hp [(38, .inr (7, [.ref 39, .ref 40, .int bu, .int (nI q), .ref 41, .int (nI n), .ref 42, .int fl, .int fa, .int fw, .int fr, .int rs, .int ac, .ref 43, .ref 44, .ref 45, .ref 46, .ref 47, .ref 48, .ref 49])), (41, .inl (false, 16, (sgF sn sc)))]) _
      refine E_if_eq (tgt := 28) dX7_matter_15 (by decide) (fun c15 => ?_) (fun c15 => ?_)
      · have c15 := b2i_e0 c15
        refine E_iinc (y := nI (c + 1)) (l2 := [.ref 38, .int (-1), .int (nI ((gL (fitB sn sc q) c).length)), .int (nI (c + 1))]) dX7_matter_28 rfl (nI_1 _) (by decide) rfl ?_
        refine E_goto (tgt := 4) dX7_matter_31 (by decide) ?_
        have e9 := ih
        rw [gl_f c15] at e9
        exact e9
      · have c15 := b2i_n0 c15
        refine E_iload_n dX7_matter_18 rfl ?_
        refine E_iload_n dX7_matter_19 rfl ?_
        have hbx : ¬ nI (gL (fitB sn sc q) c).length = -1 := fun e => absurd (by rw [e]; decide : nI (gL (fitB sn sc q) c).length < 0) (nI_pos (by omega))
        refine E_icmp_ne (tgt := 25) dX7_matter_20 (by decide) (fun _ => ?_) (fun c => absurd c hbx)
        refine E_iinc (y := nI ((gL (fitB sn sc q) c).length + 1)) (l2 := [.ref 38, .int (-1), .int (nI ((gL (fitB sn sc q) c).length + 1)), .int (nI c)]) dX7_matter_25 rfl (nI_1 _) (by decide) rfl ?_
        refine E_iinc (y := nI (c + 1)) (l2 := [.ref 38, .int (-1), .int (nI ((gL (fitB sn sc q) c).length + 1)), .int (nI (c + 1))]) dX7_matter_28 rfl (nI_1 _) (by decide) rfl ?_
        refine E_goto (tgt := 4) dX7_matter_31 (by decide) ?_
        have e9 := ih
        rw [gl_t c15] at e9
        exact e9
  refine E_iconst (v := 0) dX7_matter_0 (by decide) ?_
  refine E_istore_n (l2 := [.ref 38, .int (-1), .int 0, .null]) dX7_matter_1 rfl (by decide) rfl ?_
  refine E_iconst (v := 0) dX7_matter_2 (by decide) ?_
  refine E_istore_n (l2 := [.ref 38, .int (-1), .int 0, .int 0]) dX7_matter_3 rfl (by decide) rfl ?_
  exact L 0 (by omega)

set_option maxHeartbeats 4000000 in
set_option maxRecDepth 20000 in
theorem m_mat_in (d : Nat) (bu fl fa fw fr rs ac : Int32) (q n : Nat) (sn sc : Nat → Int32) (hq : q ≤ 8) (fi : Nat → Int32) (k : Nat) (hk : k < (fcL (fitB sn sc q) 49).length) : FC YX7_matter (d + 2) [.ref 38, .int (nI k), .null, .null] [(38, .inr (7, [.ref 39, .ref 40, .int bu, .int (nI q), .ref 41, .int (nI n), .ref 42, .int fl, .int fa, .int fw, .int fr, .int rs, .int ac, .ref 43, .ref 44, .ref 45, .ref 46, .ref 47, .ref 48, .ref 49])), (41, .inl (false, 16, (sgF sn sc)))] (some (.int (frL (fitB sn sc q) fi 49 k))) [(38, .inr (7, [.ref 39, .ref 40, .int bu, .int (nI q), .ref 41, .int (nI n), .ref 42, .int fl, .int fa, .int fw, .int fr, .int rs, .int ac, .ref 43, .ref 44, .ref 45, .ref 46, .ref 47, .ref 48, .ref 49])), (41, .inl (false, 16, (sgF sn sc)))] := by
  intro hp
  have L : ∀ c, c ≤ 70 → (gL (fitB sn sc q) c).length ≤ k → E YX7_matter (d + 2) 4 [.ref 38, .int (nI k), .int (nI ((gL (fitB sn sc q) c).length)), .int (nI c)] [] (hov hp [(38, .inr (7, [.ref 39, .ref 40, .int bu, .int (nI q), .ref 41, .int (nI n), .ref 42, .int fl, .int fa, .int fw, .int fr, .int rs, .int ac, .ref 43, .ref 44, .ref 45, .ref 46, .ref 47, .ref 48, .ref 49])), (41, .inl (false, 16, (sgF sn sc)))]) (fun v h' => v = some (.int (frL (fitB sn sc q) fi 49 k)) ∧ h' = hov hp [(38, .inr (7, [.ref 39, .ref 40, .int bu, .int (nI q), .ref 41, .int (nI n), .ref 42, .int fl, .int fa, .int fw, .int fr, .int rs, .int ac, .ref 43, .ref 44, .ref 45, .ref 46, .ref 47, .ref 48, .ref 49])), (41, .inl (false, 16, (sgF sn sc)))]) := by
    refine down 70 ?_ ?_
    · intro hle
      rw [gL_70 rfl] at hle
      exact absurd hk (Nat.not_lt.mpr hle)
    · intro c hi ih hle
      have hgl := gL_le (fitB sn sc q) c
      refine E_iload_n dX7_matter_4 rfl ?_
      refine E_bipush (v := 70) dX7_matter_5 (by decide) ?_
      refine E_icmp_ge (tgt := 34) dX7_matter_7 (by decide) (fun c => absurd c (cI_nle (n := 70) rfl hi (by decide))) (fun _ => ?_)
      refine E_aload_n dX7_matter_10 rfl ?_
      refine E_iload_n dX7_matter_11 rfl ?_
      refine E_callV (As := [.int (nI c)]) (l' := [.ref 38, .int (nI c), .null, .null]) (st := []) dX7_matter_12 kX7_137 iX7_isFit vX7_isFit (by decide) rfl rfl MX7_isFit rfl rfl (Nat.le_of_ble_eq_true rfl) (FC.use (m_isFit d bu fl fa fw fr rs ac q n sn sc hq c (by omega)) rfl (L2 := [(38, .inr (7, [.ref 39, .ref 40, .int bu, .int (nI q), .ref 41, .int (nI n), .ref 42, .int fl, .int fa, .int fw, .int fr, .int rs, .int ac, .ref 43, .ref 44, .ref 45, .ref 46, .ref 47, .ref 48, .ref 49])), (41, .inl (false, 16, (sgF sn sc)))]) rfl) (Nat.le_of_ble_eq_true rfl) (fun _ _ hq9 => E_fgo ?_ hq9)
      show E _ _ 15 [.ref 38, .int (nI k), .int (nI ((gL (fitB sn sc q) c).length)), .int (nI c)] [.int (b2i (ftF sn sc c q))] (hov hp [(38, .inr (7, [.ref 39, .ref 40, .int bu, .int (nI q), .ref 41, .int (nI n), .ref 42, .int fl, .int fa, .int fw, .int fr, .int rs, .int ac, .ref 43, .ref 44, .ref 45, .ref 46, .ref 47, .ref 48, .ref 49])), (41, .inl (false, 16, (sgF sn sc)))]) _
      refine E_if_eq (tgt := 28) dX7_matter_15 (by decide) (fun c15 => ?_) (fun c15 => ?_)
      · have c15 := b2i_e0 c15
        refine E_iinc (y := nI (c + 1)) (l2 := [.ref 38, .int (nI k), .int (nI ((gL (fitB sn sc q) c).length)), .int (nI (c + 1))]) dX7_matter_28 rfl (nI_1 _) (by decide) rfl ?_
        refine E_goto (tgt := 4) dX7_matter_31 (by decide) ?_
        have e9 := ih (by rw [gl_f c15]; exact hle)
        rw [gl_f c15] at e9
        exact e9
      · have c15 := b2i_n0 c15
        refine E_iload_n dX7_matter_18 rfl ?_
        refine E_iload_n dX7_matter_19 rfl ?_
        refine E_icmp_ne (tgt := 25) dX7_matter_20 (by decide) (fun c20 => ?_) (fun c20 => ?_)
        · have cb : ¬ (gL (fitB sn sc q) c).length = k := fun e => c20 (by rw [e])
          refine E_iinc (y := nI ((gL (fitB sn sc q) c).length + 1)) (l2 := [.ref 38, .int (nI k), .int (nI ((gL (fitB sn sc q) c).length + 1)), .int (nI c)]) dX7_matter_25 rfl (nI_1 _) (by decide) rfl ?_
          refine E_iinc (y := nI (c + 1)) (l2 := [.ref 38, .int (nI k), .int (nI ((gL (fitB sn sc q) c).length + 1)), .int (nI (c + 1))]) dX7_matter_28 rfl (nI_1 _) (by decide) rfl ?_
          refine E_goto (tgt := 4) dX7_matter_31 (by decide) ?_
          have e9 := ih (by rw [gl_t c15]; omega)
          rw [gl_t c15] at e9
          exact e9
        · have cb : (gL (fitB sn sc q) c).length = k := nI_inj (by omega) (by have := fcL_len (fitB sn sc q) 49; omega) c20
          refine E_iload_n dX7_matter_23 rfl ?_
          exact E_iretf dX7_matter_24 rfl rfl (by rw [fr_get 49 k hk, ← cb, (gL_at c15 hi).1]) rfl
  refine E_iconst (v := 0) dX7_matter_0 (by decide) ?_
  refine E_istore_n (l2 := [.ref 38, .int (nI k), .int 0, .null]) dX7_matter_1 rfl (by decide) rfl ?_
  refine E_iconst (v := 0) dX7_matter_2 (by decide) ?_
  refine E_istore_n (l2 := [.ref 38, .int (nI k), .int 0, .int 0]) dX7_matter_3 rfl (by decide) rfl ?_
  exact L 0 (by omega) (Nat.zero_le _)

set_option maxHeartbeats 4000000 in
set_option maxRecDepth 20000 in
theorem m_mat_neg (d : Nat) (bu fl fa fw fr rs ac : Int32) (q n : Nat) (sn sc : Nat → Int32) (hq : q ≤ 8) (x : Int32) (h1 : ¬ x = -1) (h2 : x < 0) : FC YX7_matter (d + 2) [.ref 38, .int x, .null, .null] [(38, .inr (7, [.ref 39, .ref 40, .int bu, .int (nI q), .ref 41, .int (nI n), .ref 42, .int fl, .int fa, .int fw, .int fr, .int rs, .int ac, .ref 43, .ref 44, .ref 45, .ref 46, .ref 47, .ref 48, .ref 49])), (41, .inl (false, 16, (sgF sn sc)))] (some (.int (-6))) [(38, .inr (7, [.ref 39, .ref 40, .int bu, .int (nI q), .ref 41, .int (nI n), .ref 42, .int fl, .int fa, .int fw, .int fr, .int rs, .int ac, .ref 43, .ref 44, .ref 45, .ref 46, .ref 47, .ref 48, .ref 49])), (41, .inl (false, 16, (sgF sn sc)))] := by
  intro hp
  have L : ∀ c, c ≤ 70 → E YX7_matter (d + 2) 4 [.ref 38, .int x, .int (nI ((gL (fitB sn sc q) c).length)), .int (nI c)] [] (hov hp [(38, .inr (7, [.ref 39, .ref 40, .int bu, .int (nI q), .ref 41, .int (nI n), .ref 42, .int fl, .int fa, .int fw, .int fr, .int rs, .int ac, .ref 43, .ref 44, .ref 45, .ref 46, .ref 47, .ref 48, .ref 49])), (41, .inl (false, 16, (sgF sn sc)))]) (fun v h' => v = some (.int (-6)) ∧ h' = hov hp [(38, .inr (7, [.ref 39, .ref 40, .int bu, .int (nI q), .ref 41, .int (nI n), .ref 42, .int fl, .int fa, .int fw, .int fr, .int rs, .int ac, .ref 43, .ref 44, .ref 45, .ref 46, .ref 47, .ref 48, .ref 49])), (41, .inl (false, 16, (sgF sn sc)))]) := by
    refine down 70 ?_ ?_
    · refine E_iload_n dX7_matter_4 rfl ?_
      refine E_bipush (v := 70) dX7_matter_5 (by decide) ?_
      refine E_icmp_ge (tgt := 34) dX7_matter_7 (by decide) (fun _ => ?_) (fun c => absurd (by decide) c)
      refine E_iload_n dX7_matter_34 rfl ?_
      refine E_iconst (v := (-1)) dX7_matter_35 (by decide) ?_
      refine E_icmp_ne (tgt := 43) dX7_matter_36 (by decide) (fun _ => ?_) (fun c => absurd c h1)
      refine E_bipush (v := (-6)) dX7_matter_43 (by decide) ?_
      exact E_iretf dX7_matter_45 rfl rfl rfl rfl
    · intro c hi ih
      have hgl := gL_le (fitB sn sc q) c
      refine E_iload_n dX7_matter_4 rfl ?_
      refine E_bipush (v := 70) dX7_matter_5 (by decide) ?_
      refine E_icmp_ge (tgt := 34) dX7_matter_7 (by decide) (fun c => absurd c (cI_nle (n := 70) rfl hi (by decide))) (fun _ => ?_)
      refine E_aload_n dX7_matter_10 rfl ?_
      refine E_iload_n dX7_matter_11 rfl ?_
      refine E_callV (As := [.int (nI c)]) (l' := [.ref 38, .int (nI c), .null, .null]) (st := []) dX7_matter_12 kX7_137 iX7_isFit vX7_isFit (by decide) rfl rfl MX7_isFit rfl rfl (Nat.le_of_ble_eq_true rfl) (FC.use (m_isFit d bu fl fa fw fr rs ac q n sn sc hq c (by omega)) rfl (L2 := [(38, .inr (7, [.ref 39, .ref 40, .int bu, .int (nI q), .ref 41, .int (nI n), .ref 42, .int fl, .int fa, .int fw, .int fr, .int rs, .int ac, .ref 43, .ref 44, .ref 45, .ref 46, .ref 47, .ref 48, .ref 49])), (41, .inl (false, 16, (sgF sn sc)))]) rfl) (Nat.le_of_ble_eq_true rfl) (fun _ _ hq9 => E_fgo ?_ hq9)
      show E _ _ 15 [.ref 38, .int x, .int (nI ((gL (fitB sn sc q) c).length)), .int (nI c)] [.int (b2i (ftF sn sc c q))] (hov hp [(38, .inr (7, [.ref 39, .ref 40, .int bu, .int (nI q), .ref 41, .int (nI n), .ref 42, .int fl, .int fa, .int fw, .int fr, .int rs, .int ac, .ref 43, .ref 44, .ref 45, .ref 46, .ref 47, .ref 48, .ref 49])), (41, .inl (false, 16, (sgF sn sc)))]) _
      refine E_if_eq (tgt := 28) dX7_matter_15 (by decide) (fun c15 => ?_) (fun c15 => ?_)
      · have c15 := b2i_e0 c15
        refine E_iinc (y := nI (c + 1)) (l2 := [.ref 38, .int x, .int (nI ((gL (fitB sn sc q) c).length)), .int (nI (c + 1))]) dX7_matter_28 rfl (nI_1 _) (by decide) rfl ?_
        refine E_goto (tgt := 4) dX7_matter_31 (by decide) ?_
        have e9 := ih
        rw [gl_f c15] at e9
        exact e9
      · have c15 := b2i_n0 c15
        refine E_iload_n dX7_matter_18 rfl ?_
        refine E_iload_n dX7_matter_19 rfl ?_
        have hbx : ¬ nI (gL (fitB sn sc q) c).length = x := fun e => absurd h2 (by rw [← e]; exact nI_pos (by omega))
        refine E_icmp_ne (tgt := 25) dX7_matter_20 (by decide) (fun _ => ?_) (fun c => absurd c hbx)
        refine E_iinc (y := nI ((gL (fitB sn sc q) c).length + 1)) (l2 := [.ref 38, .int x, .int (nI ((gL (fitB sn sc q) c).length + 1)), .int (nI c)]) dX7_matter_25 rfl (nI_1 _) (by decide) rfl ?_
        refine E_iinc (y := nI (c + 1)) (l2 := [.ref 38, .int x, .int (nI ((gL (fitB sn sc q) c).length + 1)), .int (nI (c + 1))]) dX7_matter_28 rfl (nI_1 _) (by decide) rfl ?_
        refine E_goto (tgt := 4) dX7_matter_31 (by decide) ?_
        have e9 := ih
        rw [gl_t c15] at e9
        exact e9
  refine E_iconst (v := 0) dX7_matter_0 (by decide) ?_
  refine E_istore_n (l2 := [.ref 38, .int x, .int 0, .null]) dX7_matter_1 rfl (by decide) rfl ?_
  refine E_iconst (v := 0) dX7_matter_2 (by decide) ?_
  refine E_istore_n (l2 := [.ref 38, .int x, .int 0, .int 0]) dX7_matter_3 rfl (by decide) rfl ?_
  exact L 0 (by omega)

set_option maxHeartbeats 4000000 in
set_option maxRecDepth 20000 in
theorem m_mat_big (d : Nat) (bu fl fa fw fr rs ac : Int32) (q n : Nat) (sn sc : Nat → Int32) (hq : q ≤ 8) (x : Int32) (h2 : ¬ x < 0) (h3 : nI (fcL (fitB sn sc q) 49).length ≤ x) : FC YX7_matter (d + 2) [.ref 38, .int x, .null, .null] [(38, .inr (7, [.ref 39, .ref 40, .int bu, .int (nI q), .ref 41, .int (nI n), .ref 42, .int fl, .int fa, .int fw, .int fr, .int rs, .int ac, .ref 43, .ref 44, .ref 45, .ref 46, .ref 47, .ref 48, .ref 49])), (41, .inl (false, 16, (sgF sn sc)))] (some (.int (-6))) [(38, .inr (7, [.ref 39, .ref 40, .int bu, .int (nI q), .ref 41, .int (nI n), .ref 42, .int fl, .int fa, .int fw, .int fr, .int rs, .int ac, .ref 43, .ref 44, .ref 45, .ref 46, .ref 47, .ref 48, .ref 49])), (41, .inl (false, 16, (sgF sn sc)))] := by
  intro hp
  have L : ∀ c, c ≤ 70 → E YX7_matter (d + 2) 4 [.ref 38, .int x, .int (nI ((gL (fitB sn sc q) c).length)), .int (nI c)] [] (hov hp [(38, .inr (7, [.ref 39, .ref 40, .int bu, .int (nI q), .ref 41, .int (nI n), .ref 42, .int fl, .int fa, .int fw, .int fr, .int rs, .int ac, .ref 43, .ref 44, .ref 45, .ref 46, .ref 47, .ref 48, .ref 49])), (41, .inl (false, 16, (sgF sn sc)))]) (fun v h' => v = some (.int (-6)) ∧ h' = hov hp [(38, .inr (7, [.ref 39, .ref 40, .int bu, .int (nI q), .ref 41, .int (nI n), .ref 42, .int fl, .int fa, .int fw, .int fr, .int rs, .int ac, .ref 43, .ref 44, .ref 45, .ref 46, .ref 47, .ref 48, .ref 49])), (41, .inl (false, 16, (sgF sn sc)))]) := by
    refine down 70 ?_ ?_
    · refine E_iload_n dX7_matter_4 rfl ?_
      refine E_bipush (v := 70) dX7_matter_5 (by decide) ?_
      refine E_icmp_ge (tgt := 34) dX7_matter_7 (by decide) (fun _ => ?_) (fun c => absurd (by decide) c)
      refine E_iload_n dX7_matter_34 rfl ?_
      refine E_iconst (v := (-1)) dX7_matter_35 (by decide) ?_
      refine E_icmp_ne (tgt := 43) dX7_matter_36 (by decide) (fun _ => ?_) (fun c => absurd (by rw [c]; decide : x < 0) h2)
      refine E_bipush (v := (-6)) dX7_matter_43 (by decide) ?_
      exact E_iretf dX7_matter_45 rfl rfl rfl rfl
    · intro c hi ih
      have hgl := gL_le (fitB sn sc q) c
      refine E_iload_n dX7_matter_4 rfl ?_
      refine E_bipush (v := 70) dX7_matter_5 (by decide) ?_
      refine E_icmp_ge (tgt := 34) dX7_matter_7 (by decide) (fun c => absurd c (cI_nle (n := 70) rfl hi (by decide))) (fun _ => ?_)
      refine E_aload_n dX7_matter_10 rfl ?_
      refine E_iload_n dX7_matter_11 rfl ?_
      refine E_callV (As := [.int (nI c)]) (l' := [.ref 38, .int (nI c), .null, .null]) (st := []) dX7_matter_12 kX7_137 iX7_isFit vX7_isFit (by decide) rfl rfl MX7_isFit rfl rfl (Nat.le_of_ble_eq_true rfl) (FC.use (m_isFit d bu fl fa fw fr rs ac q n sn sc hq c (by omega)) rfl (L2 := [(38, .inr (7, [.ref 39, .ref 40, .int bu, .int (nI q), .ref 41, .int (nI n), .ref 42, .int fl, .int fa, .int fw, .int fr, .int rs, .int ac, .ref 43, .ref 44, .ref 45, .ref 46, .ref 47, .ref 48, .ref 49])), (41, .inl (false, 16, (sgF sn sc)))]) rfl) (Nat.le_of_ble_eq_true rfl) (fun _ _ hq9 => E_fgo ?_ hq9)
      show E _ _ 15 [.ref 38, .int x, .int (nI ((gL (fitB sn sc q) c).length)), .int (nI c)] [.int (b2i (ftF sn sc c q))] (hov hp [(38, .inr (7, [.ref 39, .ref 40, .int bu, .int (nI q), .ref 41, .int (nI n), .ref 42, .int fl, .int fa, .int fw, .int fr, .int rs, .int ac, .ref 43, .ref 44, .ref 45, .ref 46, .ref 47, .ref 48, .ref 49])), (41, .inl (false, 16, (sgF sn sc)))]) _
      refine E_if_eq (tgt := 28) dX7_matter_15 (by decide) (fun c15 => ?_) (fun c15 => ?_)
      · have c15 := b2i_e0 c15
        refine E_iinc (y := nI (c + 1)) (l2 := [.ref 38, .int x, .int (nI ((gL (fitB sn sc q) c).length)), .int (nI (c + 1))]) dX7_matter_28 rfl (nI_1 _) (by decide) rfl ?_
        refine E_goto (tgt := 4) dX7_matter_31 (by decide) ?_
        have e9 := ih
        rw [gl_f c15] at e9
        exact e9
      · have c15 := b2i_n0 c15
        refine E_iload_n dX7_matter_18 rfl ?_
        refine E_iload_n dX7_matter_19 rfl ?_
        have hbx : ¬ nI (gL (fitB sn sc q) c).length = x := fun e => nI_ge (gL_at c15 hi).2 (by have := fcL_len (fitB sn sc q) 49; omega) (by rw [e]; exact h3)
        refine E_icmp_ne (tgt := 25) dX7_matter_20 (by decide) (fun _ => ?_) (fun c => absurd c hbx)
        refine E_iinc (y := nI ((gL (fitB sn sc q) c).length + 1)) (l2 := [.ref 38, .int x, .int (nI ((gL (fitB sn sc q) c).length + 1)), .int (nI c)]) dX7_matter_25 rfl (nI_1 _) (by decide) rfl ?_
        refine E_iinc (y := nI (c + 1)) (l2 := [.ref 38, .int x, .int (nI ((gL (fitB sn sc q) c).length + 1)), .int (nI (c + 1))]) dX7_matter_28 rfl (nI_1 _) (by decide) rfl ?_
        refine E_goto (tgt := 4) dX7_matter_31 (by decide) ?_
        have e9 := ih
        rw [gl_t c15] at e9
        exact e9
  refine E_iconst (v := 0) dX7_matter_0 (by decide) ?_
  refine E_istore_n (l2 := [.ref 38, .int x, .int 0, .null]) dX7_matter_1 rfl (by decide) rfl ?_
  refine E_iconst (v := 0) dX7_matter_2 (by decide) ?_
  refine E_istore_n (l2 := [.ref 38, .int x, .int 0, .int 0]) dX7_matter_3 rfl (by decide) rfl ?_
  exact L 0 (by omega)
