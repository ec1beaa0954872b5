/-! the reference's pad and weeks -/
theorem letM {s : Int32} : inI s 65 70 = letB s := (inL_I s 65 70).symm
theorem celM {s : Int32} : inI s 97 121 = celB s := (inL_I s 97 121).symm
theorem let_deed {s : Int32} (h : letB s = true) : deedB s = false := by
  cases hd : deedB s with
  | false => rfl
  | true => rw [deed_let hd] at h; cases h
def GOK (x : Int32) : Prop := x = -6 ∨ ∃ g, g < 100 ∧ x = nI g
theorem GOK.pos {x : Int32} (h : GOK x) (h0 : 0 ≤ x) : ¬ x = -6 := fun e => by rw [e] at h0; exact absurd h0 (by decide)
theorem GOK.neg {x : Int32} (h : GOK x) (h0 : ¬ 0 ≤ x) : x = -6 := by
  rcases h with e | ⟨g, hg, e⟩
  · exact e
  · exact absurd (by rw [e]; exact nI_pos' (by omega)) h0
theorem nt_gok {a : Nat} {x g h : Int32} (ha : a < 100) (hg : GOK g) : ∀ i, GOK (nt (nI a) x g h i).1
  | 0 => hg
  | i + 1 => by
    rw [nt]
    cases decide ((nt (nI a) x g h i).1 = -6) && hbt x (nI i)
    · exact nt_gok ha hg i
    · exact Or.inr ⟨a, ha, rfl⟩
theorem ntG_gok {a : Nat} {x g h : Int32} (ha : a < 100) (hg : GOK g) : GOK (ntG (nI a) x g h) := nt_gok ha hg 6
theorem nt_t {a x g h : Int32} {i : Nat} (h1 : (nt a x g h i).1 = -6) (h2 : hbt x (nI i) = true) : nt a x g h (i + 1) = (a, nI i) := by rw [nt, decide_eq_true h1, h2]; rfl
theorem nt_f {a x g h : Int32} {i : Nat} (h2 : hbt x (nI i) = false) : nt a x g h (i + 1) = nt a x g h i := by rw [nt, h2]; cases decide ((nt a x g h i).1 = -6) <;> rfl
theorem ntG_6 {a x g h : Int32} {i : Nat} (hi : i ≤ 6) (h1 : ¬ (nt a x g h i).1 = -6) : ntG a x g h = (nt a x g h i).1 ∧ ntH a x g h = (nt a x g h i).2 := by
  have e := nt_fix h1 (6 - i)
  rw [show i + (6 - i) = 6 by omega] at e
  rw [ntG, ntH, e]
  exact ⟨rfl, rfl⟩
theorem bc0 : bcI 0 = 0 := by decide
theorem add0I (x : Int32) : x + 0 = x := by apply Int32.toBitVec_inj.mp; simp

set_option maxHeartbeats 4000000 in
set_option maxRecDepth 20000 in
theorem m_faultOf (d : Nat) (bu fl fa fw fr rs ac : Int32) (q n : Nat) (f : Nat → Int32) (hn : n ≤ 60) : FC YX7_faultOf (d + 1) [.ref 38, .null, .null, .null, .null, .null] [(38, .inr (7, [.ref 39, .ref 40, .int bu, .int (nI q), .ref 41, .int (nI n), .ref 42, .int fl, .int fa, .int fw, .int fr, .int rs, .int ac, .ref 43, .ref 44, .ref 45, .ref 46, .ref 47, .ref 48, .ref 49])), (42, .inl (false, 60, f))] (some (.int (flt f n 0 false))) [(38, .inr (7, [.ref 39, .ref 40, .int bu, .int (nI q), .ref 41, .int (nI n), .ref 42, .int fl, .int fa, .int fw, .int fr, .int rs, .int ac, .ref 43, .ref 44, .ref 45, .ref 46, .ref 47, .ref 48, .ref 49])), (42, .inl (false, 60, f))] := by
  intro hp
  refine E_iconst (v := 0) dX7_faultOf_0 (by decide) ?_
  refine E_istore_n (l2 := [.ref 38, .int 0, .null, .null, .null, .null]) dX7_faultOf_1 rfl (by decide) rfl ?_
  refine E_iconst (v := 0) dX7_faultOf_2 (by decide) ?_
  refine E_istore_n (l2 := [.ref 38, .int 0, .int 0, .null, .null, .null]) dX7_faultOf_3 rfl (by decide) rfl ?_
  have L : ∀ (k p : Nat) (b : Bool) (l3 l4 l5 : Value), p + k = n → flt f k p b = flt f n 0 false → E YX7_faultOf (d + 1) 4 [.ref 38, .int (b2i b), .int (nI p), l3, l4, l5] [] (hov hp [(38, .inr (7, [.ref 39, .ref 40, .int bu, .int (nI q), .ref 41, .int (nI n), .ref 42, .int fl, .int fa, .int fw, .int fr, .int rs, .int ac, .ref 43, .ref 44, .ref 45, .ref 46, .ref 47, .ref 48, .ref 49])), (42, .inl (false, 60, f))]) (fun v h' => v = some (.int (flt f n 0 false)) ∧ h' = hov hp [(38, .inr (7, [.ref 39, .ref 40, .int bu, .int (nI q), .ref 41, .int (nI n), .ref 42, .int fl, .int fa, .int fw, .int fr, .int rs, .int ac, .ref 43, .ref 44, .ref 45, .ref 46, .ref 47, .ref 48, .ref 49])), (42, .inl (false, 60, f))]) := by
    intro k
    induction k with
    | zero =>
      intro p b l3 l4 l5 hpk he
      have hpk : p = n := by omega
      subst hpk
      refine E_iload_n dX7_faultOf_4 rfl ?_
      refine E_aload_n dX7_faultOf_5 rfl ?_
      refine E_get dX7_faultOf_6 fX7_60 (by decide) rfl rfl ?_
      refine E_icmp_ge (tgt := 117) dX7_faultOf_9 (by decide) (fun _ => ?_) (fun c => absurd (nI_le (Nat.le_refl _) (by omega)) c)
      refine E_iload_n dX7_faultOf_117 rfl ?_
      refine E_if_eq (tgt := 128) dX7_faultOf_118 (by decide) (fun c118 => ?_) (fun c118 => ?_)
      · have c118 := b2i_e0 c118
        refine E_bipush (v := (-6)) dX7_faultOf_128 (by decide) ?_
        exact E_iretf dX7_faultOf_130 rfl rfl (by rw [← he]; simp [flt, c118]) rfl
      · have c118 := b2i_n0 c118
        refine E_aload_n dX7_faultOf_121 rfl ?_
        refine E_get dX7_faultOf_122 fX7_60 (by decide) rfl rfl ?_
        refine E_goto (tgt := 130) dX7_faultOf_125 (by decide) ?_
        exact E_iretf dX7_faultOf_130 rfl rfl (by rw [← he]; simp [flt, c118]) rfl
    | succ k ih =>
      intro p b l3 l4 l5 hpk he
      refine E_iload_n dX7_faultOf_4 rfl ?_
      refine E_aload_n dX7_faultOf_5 rfl ?_
      refine E_get dX7_faultOf_6 fX7_60 (by decide) rfl rfl ?_
      refine E_icmp_ge (tgt := 117) dX7_faultOf_9 (by decide) (fun c => absurd c (nI_ge (by omega) (by omega))) (fun _ => ?_)
      refine E_aload_n dX7_faultOf_12 rfl ?_
      refine E_get dX7_faultOf_13 fX7_23 (by decide) rfl rfl ?_
      refine E_iload_n dX7_faultOf_16 rfl ?_
      refine E_ialdN (j := p) dX7_faultOf_17 (by decide) rfl (by omega) (by decide) ?_
      refine E_istore_n (l2 := [.ref 38, .int (b2i b), .int (nI p), .int (f p), l4, l5]) dX7_faultOf_18 rfl (by decide) rfl ?_
      refine E_iload_n dX7_faultOf_19 rfl ?_
      refine E_bipush (v := 65) dX7_faultOf_20 (by decide) ?_
      refine E_bipush (v := 70) dX7_faultOf_22 (by decide) ?_
      refine E_callS (As := [.int (f p), .int 65, .int 70]) (l' := [.int (f p), .int 65, .int 70]) (st := []) dX7_faultOf_24 kX7_48 sX7_in MX7_in rfl rfl (Nat.le_of_ble_eq_true rfl) (FC.use (c_in d _ _ _) rfl (L2 := [(38, .inr (7, [.ref 39, .ref 40, .int bu, .int (nI q), .ref 41, .int (nI n), .ref 42, .int fl, .int fa, .int fw, .int fr, .int rs, .int ac, .ref 43, .ref 44, .ref 45, .ref 46, .ref 47, .ref 48, .ref 49])), (42, .inl (false, 60, f))]) rfl) (Nat.le_of_ble_eq_true rfl) (fun _ _ hq9 => E_fgo ?_ hq9)
      show E _ _ 27 [.ref 38, .int (b2i b), .int (nI p), .int (f p), l4, l5] [.int (b2i (inI (f p) 65 70))] (hov hp [(38, .inr (7, [.ref 39, .ref 40, .int bu, .int (nI q), .ref 41, .int (nI n), .ref 42, .int fl, .int fa, .int fw, .int fr, .int rs, .int ac, .ref 43, .ref 44, .ref 45, .ref 46, .ref 47, .ref 48, .ref 49])), (42, .inl (false, 60, f))]) _
      refine E_eqi (y := b2i (letB (f p))) (congrArg b2i letM) ?_
      refine E_istore (l2 := [.ref 38, .int (b2i b), .int (nI p), .int (f p), .int (b2i (letB (f p))), l5]) dX7_faultOf_27 (by decide) rfl ?_
      refine E_iload_n dX7_faultOf_29 rfl ?_
      refine E_bipush (v := 97) dX7_faultOf_30 (by decide) ?_
      refine E_bipush (v := 121) dX7_faultOf_32 (by decide) ?_
      refine E_callS (As := [.int (f p), .int 97, .int 121]) (l' := [.int (f p), .int 97, .int 121]) (st := []) dX7_faultOf_34 kX7_48 sX7_in MX7_in rfl rfl (Nat.le_of_ble_eq_true rfl) (FC.use (c_in d _ _ _) rfl (L2 := [(38, .inr (7, [.ref 39, .ref 40, .int bu, .int (nI q), .ref 41, .int (nI n), .ref 42, .int fl, .int fa, .int fw, .int fr, .int rs, .int ac, .ref 43, .ref 44, .ref 45, .ref 46, .ref 47, .ref 48, .ref 49])), (42, .inl (false, 60, f))]) rfl) (Nat.le_of_ble_eq_true rfl) (fun _ _ hq9 => E_fgo ?_ hq9)
      show E _ _ 37 [.ref 38, .int (b2i b), .int (nI p), .int (f p), .int (b2i (letB (f p))), l5] [.int (b2i (inI (f p) 97 121))] (hov hp [(38, .inr (7, [.ref 39, .ref 40, .int bu, .int (nI q), .ref 41, .int (nI n), .ref 42, .int fl, .int fa, .int fw, .int fr, .int rs, .int ac, .ref 43, .ref 44, .ref 45, .ref 46, .ref 47, .ref 48, .ref 49])), (42, .inl (false, 60, f))]) _
      refine E_eqi (y := b2i (celB (f p))) (congrArg b2i celM) ?_
      refine E_if_ne (tgt := 64) dX7_faultOf_37 (by decide) (fun c37 => ?_) (fun c37 => ?_)
      · have c37 := b2i_n0 c37
        refine E_iconst (v := 1) dX7_faultOf_64 (by decide) ?_
        refine E_goto (tgt := 69) dX7_faultOf_65 (by decide) ?_
        refine E_istore (l2 := [.ref 38, .int (b2i b), .int (nI p), .int (f p), .int (b2i (letB (f p))), .int 1]) dX7_faultOf_69 (by decide) rfl ?_
        refine E_iload_n dX7_faultOf_71 rfl ?_
        refine E_if_eq (tgt := 83) dX7_faultOf_72 (by decide) (fun c72 => ?_) (fun c72 => ?_)
        · have c72 := b2i_e0 c72
          refine E_iload dX7_faultOf_83 rfl ?_
          refine E_if_ne (tgt := 96) dX7_faultOf_85 (by decide) (fun c85 => ?_) (fun c85 => ?_)
          · have c85 := b2i_n0 c85
            refine E_iload_n dX7_faultOf_96 rfl ?_
            refine E_if_ne (tgt := 109) dX7_faultOf_97 (by decide) (fun c => (b2i_x0 c72 c).elim) (fun _ => ?_)
            refine E_iload dX7_faultOf_100 rfl ?_
            refine E_if_eq (tgt := 109) dX7_faultOf_102 (by decide) (fun c => (b2i_x1 c85 c).elim) (fun _ => ?_)
            refine E_iconst (v := 1) dX7_faultOf_105 (by decide) ?_
            refine E_goto (tgt := 110) dX7_faultOf_106 (by decide) ?_
            refine E_istore_n (l2 := [.ref 38, .int 1, .int (nI p), .int (f p), .int (b2i (letB (f p))), .int 1]) dX7_faultOf_110 rfl (by decide) rfl ?_
            refine E_iinc (y := nI (p + 1)) (l2 := [.ref 38, .int 1, .int (nI (p + 1)), .int (f p), .int (b2i (letB (f p))), .int 1]) dX7_faultOf_111 rfl (nI_1 _) (by decide) rfl ?_
            refine E_goto (tgt := 4) dX7_faultOf_114 (by decide) ?_
            rw [show (1 : Int32) = b2i (letB (f p)) from by simp [b2i, c85]]
            exact ih (p + 1) (letB (f p)) _ _ _ (by omega) (by rw [← he, flt_ok (by simp [okS, c72, c85])])
          · have c85 := b2i_e0 c85
            refine E_iload_n dX7_faultOf_88 rfl ?_
            refine E_bipush (v := 46) dX7_faultOf_89 (by decide) ?_
            refine E_icmp_eq (tgt := 96) dX7_faultOf_91 (by decide) (fun c91 => ?_) (fun c91 => ?_)
            · refine E_iload_n dX7_faultOf_96 rfl ?_
              refine E_if_ne (tgt := 109) dX7_faultOf_97 (by decide) (fun c => (b2i_x0 c72 c).elim) (fun _ => ?_)
              refine E_iload dX7_faultOf_100 rfl ?_
              refine E_if_eq (tgt := 109) dX7_faultOf_102 (by decide) (fun _ => ?_) (fun c => (b2i_x0 c85 c).elim)
              refine E_iconst (v := 0) dX7_faultOf_109 (by decide) ?_
              refine E_istore_n (l2 := [.ref 38, .int 0, .int (nI p), .int (f p), .int (b2i (letB (f p))), .int 1]) dX7_faultOf_110 rfl (by decide) rfl ?_
              refine E_iinc (y := nI (p + 1)) (l2 := [.ref 38, .int 0, .int (nI (p + 1)), .int (f p), .int (b2i (letB (f p))), .int 1]) dX7_faultOf_111 rfl (nI_1 _) (by decide) rfl ?_
              refine E_goto (tgt := 4) dX7_faultOf_114 (by decide) ?_
              rw [show (0 : Int32) = b2i (letB (f p)) from by simp [b2i, c85]]
              exact ih (p + 1) (letB (f p)) _ _ _ (by omega) (by rw [← he, flt_ok (by simp [okS, c72, c85, c91])])
            · refine E_iload_n dX7_faultOf_94 rfl ?_
              exact E_iretf dX7_faultOf_95 rfl rfl (by rw [← he, flt_no (by simp [okS, deedB, c72, c85, c91])]) rfl
        · have c72 := b2i_n0 c72
          refine E_iload dX7_faultOf_75 rfl ?_
          refine E_if_ne (tgt := 96) dX7_faultOf_77 (by decide) (fun _ => ?_) (fun c => by first | exact absurd c (by decide) | exact absurd (by decide) c)
          refine E_iload_n dX7_faultOf_96 rfl ?_
          refine E_if_ne (tgt := 109) dX7_faultOf_97 (by decide) (fun _ => ?_) (fun c => (b2i_x1 c72 c).elim)
          refine E_iconst (v := 0) dX7_faultOf_109 (by decide) ?_
          refine E_istore_n (l2 := [.ref 38, .int 0, .int (nI p), .int (f p), .int (b2i (letB (f p))), .int 1]) dX7_faultOf_110 rfl (by decide) rfl ?_
          refine E_iinc (y := nI (p + 1)) (l2 := [.ref 38, .int 0, .int (nI (p + 1)), .int (f p), .int (b2i (letB (f p))), .int 1]) dX7_faultOf_111 rfl (nI_1 _) (by decide) rfl ?_
          refine E_goto (tgt := 4) dX7_faultOf_114 (by decide) ?_
          have hdd : deedB (f p) = true := by simp [deedB, c37]
          rw [show (0 : Int32) = b2i (letB (f p)) from by rw [deed_let hdd]; rfl]
          exact ih (p + 1) (letB (f p)) _ _ _ (by omega) (by rw [← he, flt_ok (by simp [okS, hdd, c72])])
      · have c37 := b2i_e0 c37
        refine E_iload_n dX7_faultOf_40 rfl ?_
        refine E_bipush (v := 43) dX7_faultOf_41 (by decide) ?_
        refine E_icmp_eq (tgt := 64) dX7_faultOf_43 (by decide) (fun c43 => ?_) (fun c43 => ?_)
        · refine E_iconst (v := 1) dX7_faultOf_64 (by decide) ?_
          refine E_goto (tgt := 69) dX7_faultOf_65 (by decide) ?_
          refine E_istore (l2 := [.ref 38, .int (b2i b), .int (nI p), .int (f p), .int (b2i (letB (f p))), .int 1]) dX7_faultOf_69 (by decide) rfl ?_
          refine E_iload_n dX7_faultOf_71 rfl ?_
          refine E_if_eq (tgt := 83) dX7_faultOf_72 (by decide) (fun c72 => ?_) (fun c72 => ?_)
          · have c72 := b2i_e0 c72
            refine E_iload dX7_faultOf_83 rfl ?_
            refine E_if_ne (tgt := 96) dX7_faultOf_85 (by decide) (fun c85 => ?_) (fun c85 => ?_)
            · have c85 := b2i_n0 c85
              refine E_iload_n dX7_faultOf_96 rfl ?_
              refine E_if_ne (tgt := 109) dX7_faultOf_97 (by decide) (fun c => (b2i_x0 c72 c).elim) (fun _ => ?_)
              refine E_iload dX7_faultOf_100 rfl ?_
              refine E_if_eq (tgt := 109) dX7_faultOf_102 (by decide) (fun c => (b2i_x1 c85 c).elim) (fun _ => ?_)
              refine E_iconst (v := 1) dX7_faultOf_105 (by decide) ?_
              refine E_goto (tgt := 110) dX7_faultOf_106 (by decide) ?_
              refine E_istore_n (l2 := [.ref 38, .int 1, .int (nI p), .int (f p), .int (b2i (letB (f p))), .int 1]) dX7_faultOf_110 rfl (by decide) rfl ?_
              refine E_iinc (y := nI (p + 1)) (l2 := [.ref 38, .int 1, .int (nI (p + 1)), .int (f p), .int (b2i (letB (f p))), .int 1]) dX7_faultOf_111 rfl (nI_1 _) (by decide) rfl ?_
              refine E_goto (tgt := 4) dX7_faultOf_114 (by decide) ?_
              rw [show (1 : Int32) = b2i (letB (f p)) from by simp [b2i, c85]]
              exact ih (p + 1) (letB (f p)) _ _ _ (by omega) (by rw [← he, flt_ok (by simp [okS, c72, c85])])
            · have c85 := b2i_e0 c85
              refine E_iload_n dX7_faultOf_88 rfl ?_
              refine E_bipush (v := 46) dX7_faultOf_89 (by decide) ?_
              refine E_icmp_eq (tgt := 96) dX7_faultOf_91 (by decide) (fun c91 => ?_) (fun c91 => ?_)
              · refine E_iload_n dX7_faultOf_96 rfl ?_
                refine E_if_ne (tgt := 109) dX7_faultOf_97 (by decide) (fun c => (b2i_x0 c72 c).elim) (fun _ => ?_)
                refine E_iload dX7_faultOf_100 rfl ?_
                refine E_if_eq (tgt := 109) dX7_faultOf_102 (by decide) (fun _ => ?_) (fun c => (b2i_x0 c85 c).elim)
                refine E_iconst (v := 0) dX7_faultOf_109 (by decide) ?_
                refine E_istore_n (l2 := [.ref 38, .int 0, .int (nI p), .int (f p), .int (b2i (letB (f p))), .int 1]) dX7_faultOf_110 rfl (by decide) rfl ?_
                refine E_iinc (y := nI (p + 1)) (l2 := [.ref 38, .int 0, .int (nI (p + 1)), .int (f p), .int (b2i (letB (f p))), .int 1]) dX7_faultOf_111 rfl (nI_1 _) (by decide) rfl ?_
                refine E_goto (tgt := 4) dX7_faultOf_114 (by decide) ?_
                rw [show (0 : Int32) = b2i (letB (f p)) from by simp [b2i, c85]]
                exact ih (p + 1) (letB (f p)) _ _ _ (by omega) (by rw [← he, flt_ok (by simp [okS, c72, c85, c91])])
              · refine E_iload_n dX7_faultOf_94 rfl ?_
                exact E_iretf dX7_faultOf_95 rfl rfl (by rw [← he, flt_no (by simp [okS, deedB, c72, c85, c91])]) rfl
          · have c72 := b2i_n0 c72
            refine E_iload dX7_faultOf_75 rfl ?_
            refine E_if_ne (tgt := 96) dX7_faultOf_77 (by decide) (fun _ => ?_) (fun c => by first | exact absurd c (by decide) | exact absurd (by decide) c)
            refine E_iload_n dX7_faultOf_96 rfl ?_
            refine E_if_ne (tgt := 109) dX7_faultOf_97 (by decide) (fun _ => ?_) (fun c => (b2i_x1 c72 c).elim)
            refine E_iconst (v := 0) dX7_faultOf_109 (by decide) ?_
            refine E_istore_n (l2 := [.ref 38, .int 0, .int (nI p), .int (f p), .int (b2i (letB (f p))), .int 1]) dX7_faultOf_110 rfl (by decide) rfl ?_
            refine E_iinc (y := nI (p + 1)) (l2 := [.ref 38, .int 0, .int (nI (p + 1)), .int (f p), .int (b2i (letB (f p))), .int 1]) dX7_faultOf_111 rfl (nI_1 _) (by decide) rfl ?_
            refine E_goto (tgt := 4) dX7_faultOf_114 (by decide) ?_
            have hdd : deedB (f p) = true := by simp [deedB, c37, c43]
            rw [show (0 : Int32) = b2i (letB (f p)) from by rw [deed_let hdd]; rfl]
            exact ih (p + 1) (letB (f p)) _ _ _ (by omega) (by rw [← he, flt_ok (by simp [okS, hdd, c72])])
        · refine E_iload_n dX7_faultOf_46 rfl ?_
          refine E_bipush (v := 45) dX7_faultOf_47 (by decide) ?_
          refine E_icmp_eq (tgt := 64) dX7_faultOf_49 (by decide) (fun c49 => ?_) (fun c49 => ?_)
          · refine E_iconst (v := 1) dX7_faultOf_64 (by decide) ?_
            refine E_goto (tgt := 69) dX7_faultOf_65 (by decide) ?_
            refine E_istore (l2 := [.ref 38, .int (b2i b), .int (nI p), .int (f p), .int (b2i (letB (f p))), .int 1]) dX7_faultOf_69 (by decide) rfl ?_
            refine E_iload_n dX7_faultOf_71 rfl ?_
            refine E_if_eq (tgt := 83) dX7_faultOf_72 (by decide) (fun c72 => ?_) (fun c72 => ?_)
            · have c72 := b2i_e0 c72
              refine E_iload dX7_faultOf_83 rfl ?_
              refine E_if_ne (tgt := 96) dX7_faultOf_85 (by decide) (fun c85 => ?_) (fun c85 => ?_)
              · have c85 := b2i_n0 c85
                refine E_iload_n dX7_faultOf_96 rfl ?_
                refine E_if_ne (tgt := 109) dX7_faultOf_97 (by decide) (fun c => (b2i_x0 c72 c).elim) (fun _ => ?_)
                refine E_iload dX7_faultOf_100 rfl ?_
                refine E_if_eq (tgt := 109) dX7_faultOf_102 (by decide) (fun c => (b2i_x1 c85 c).elim) (fun _ => ?_)
                refine E_iconst (v := 1) dX7_faultOf_105 (by decide) ?_
                refine E_goto (tgt := 110) dX7_faultOf_106 (by decide) ?_
                refine E_istore_n (l2 := [.ref 38, .int 1, .int (nI p), .int (f p), .int (b2i (letB (f p))), .int 1]) dX7_faultOf_110 rfl (by decide) rfl ?_
                refine E_iinc (y := nI (p + 1)) (l2 := [.ref 38, .int 1, .int (nI (p + 1)), .int (f p), .int (b2i (letB (f p))), .int 1]) dX7_faultOf_111 rfl (nI_1 _) (by decide) rfl ?_
                refine E_goto (tgt := 4) dX7_faultOf_114 (by decide) ?_
                rw [show (1 : Int32) = b2i (letB (f p)) from by simp [b2i, c85]]
                exact ih (p + 1) (letB (f p)) _ _ _ (by omega) (by rw [← he, flt_ok (by simp [okS, c72, c85])])
              · have c85 := b2i_e0 c85
                refine E_iload_n dX7_faultOf_88 rfl ?_
                refine E_bipush (v := 46) dX7_faultOf_89 (by decide) ?_
                refine E_icmp_eq (tgt := 96) dX7_faultOf_91 (by decide) (fun c91 => ?_) (fun c91 => ?_)
                · refine E_iload_n dX7_faultOf_96 rfl ?_
                  refine E_if_ne (tgt := 109) dX7_faultOf_97 (by decide) (fun c => (b2i_x0 c72 c).elim) (fun _ => ?_)
                  refine E_iload dX7_faultOf_100 rfl ?_
                  refine E_if_eq (tgt := 109) dX7_faultOf_102 (by decide) (fun _ => ?_) (fun c => (b2i_x0 c85 c).elim)
                  refine E_iconst (v := 0) dX7_faultOf_109 (by decide) ?_
                  refine E_istore_n (l2 := [.ref 38, .int 0, .int (nI p), .int (f p), .int (b2i (letB (f p))), .int 1]) dX7_faultOf_110 rfl (by decide) rfl ?_
                  refine E_iinc (y := nI (p + 1)) (l2 := [.ref 38, .int 0, .int (nI (p + 1)), .int (f p), .int (b2i (letB (f p))), .int 1]) dX7_faultOf_111 rfl (nI_1 _) (by decide) rfl ?_
                  refine E_goto (tgt := 4) dX7_faultOf_114 (by decide) ?_
                  rw [show (0 : Int32) = b2i (letB (f p)) from by simp [b2i, c85]]
                  exact ih (p + 1) (letB (f p)) _ _ _ (by omega) (by rw [← he, flt_ok (by simp [okS, c72, c85, c91])])
                · refine E_iload_n dX7_faultOf_94 rfl ?_
                  exact E_iretf dX7_faultOf_95 rfl rfl (by rw [← he, flt_no (by simp [okS, deedB, c72, c85, c91])]) rfl
            · have c72 := b2i_n0 c72
              refine E_iload dX7_faultOf_75 rfl ?_
              refine E_if_ne (tgt := 96) dX7_faultOf_77 (by decide) (fun _ => ?_) (fun c => by first | exact absurd c (by decide) | exact absurd (by decide) c)
              refine E_iload_n dX7_faultOf_96 rfl ?_
              refine E_if_ne (tgt := 109) dX7_faultOf_97 (by decide) (fun _ => ?_) (fun c => (b2i_x1 c72 c).elim)
              refine E_iconst (v := 0) dX7_faultOf_109 (by decide) ?_
              refine E_istore_n (l2 := [.ref 38, .int 0, .int (nI p), .int (f p), .int (b2i (letB (f p))), .int 1]) dX7_faultOf_110 rfl (by decide) rfl ?_
              refine E_iinc (y := nI (p + 1)) (l2 := [.ref 38, .int 0, .int (nI (p + 1)), .int (f p), .int (b2i (letB (f p))), .int 1]) dX7_faultOf_111 rfl (nI_1 _) (by decide) rfl ?_
              refine E_goto (tgt := 4) dX7_faultOf_114 (by decide) ?_
              have hdd : deedB (f p) = true := by simp [deedB, c37, c43, c49]
              rw [show (0 : Int32) = b2i (letB (f p)) from by rw [deed_let hdd]; rfl]
              exact ih (p + 1) (letB (f p)) _ _ _ (by omega) (by rw [← he, flt_ok (by simp [okS, hdd, c72])])
          · refine E_iload_n dX7_faultOf_52 rfl ?_
            refine E_bipush (v := 42) dX7_faultOf_53 (by decide) ?_
            refine E_icmp_eq (tgt := 64) dX7_faultOf_55 (by decide) (fun c55 => ?_) (fun c55 => ?_)
            · refine E_iconst (v := 1) dX7_faultOf_64 (by decide) ?_
              refine E_goto (tgt := 69) dX7_faultOf_65 (by decide) ?_
              refine E_istore (l2 := [.ref 38, .int (b2i b), .int (nI p), .int (f p), .int (b2i (letB (f p))), .int 1]) dX7_faultOf_69 (by decide) rfl ?_
              refine E_iload_n dX7_faultOf_71 rfl ?_
              refine E_if_eq (tgt := 83) dX7_faultOf_72 (by decide) (fun c72 => ?_) (fun c72 => ?_)
              · have c72 := b2i_e0 c72
                refine E_iload dX7_faultOf_83 rfl ?_
                refine E_if_ne (tgt := 96) dX7_faultOf_85 (by decide) (fun c85 => ?_) (fun c85 => ?_)
                · have c85 := b2i_n0 c85
                  refine E_iload_n dX7_faultOf_96 rfl ?_
                  refine E_if_ne (tgt := 109) dX7_faultOf_97 (by decide) (fun c => (b2i_x0 c72 c).elim) (fun _ => ?_)
                  refine E_iload dX7_faultOf_100 rfl ?_
                  refine E_if_eq (tgt := 109) dX7_faultOf_102 (by decide) (fun c => (b2i_x1 c85 c).elim) (fun _ => ?_)
                  refine E_iconst (v := 1) dX7_faultOf_105 (by decide) ?_
                  refine E_goto (tgt := 110) dX7_faultOf_106 (by decide) ?_
                  refine E_istore_n (l2 := [.ref 38, .int 1, .int (nI p), .int (f p), .int (b2i (letB (f p))), .int 1]) dX7_faultOf_110 rfl (by decide) rfl ?_
                  refine E_iinc (y := nI (p + 1)) (l2 := [.ref 38, .int 1, .int (nI (p + 1)), .int (f p), .int (b2i (letB (f p))), .int 1]) dX7_faultOf_111 rfl (nI_1 _) (by decide) rfl ?_
                  refine E_goto (tgt := 4) dX7_faultOf_114 (by decide) ?_
                  rw [show (1 : Int32) = b2i (letB (f p)) from by simp [b2i, c85]]
                  exact ih (p + 1) (letB (f p)) _ _ _ (by omega) (by rw [← he, flt_ok (by simp [okS, c72, c85])])
                · have c85 := b2i_e0 c85
                  refine E_iload_n dX7_faultOf_88 rfl ?_
                  refine E_bipush (v := 46) dX7_faultOf_89 (by decide) ?_
                  refine E_icmp_eq (tgt := 96) dX7_faultOf_91 (by decide) (fun c91 => ?_) (fun c91 => ?_)
                  · refine E_iload_n dX7_faultOf_96 rfl ?_
                    refine E_if_ne (tgt := 109) dX7_faultOf_97 (by decide) (fun c => (b2i_x0 c72 c).elim) (fun _ => ?_)
                    refine E_iload dX7_faultOf_100 rfl ?_
                    refine E_if_eq (tgt := 109) dX7_faultOf_102 (by decide) (fun _ => ?_) (fun c => (b2i_x0 c85 c).elim)
                    refine E_iconst (v := 0) dX7_faultOf_109 (by decide) ?_
                    refine E_istore_n (l2 := [.ref 38, .int 0, .int (nI p), .int (f p), .int (b2i (letB (f p))), .int 1]) dX7_faultOf_110 rfl (by decide) rfl ?_
                    refine E_iinc (y := nI (p + 1)) (l2 := [.ref 38, .int 0, .int (nI (p + 1)), .int (f p), .int (b2i (letB (f p))), .int 1]) dX7_faultOf_111 rfl (nI_1 _) (by decide) rfl ?_
                    refine E_goto (tgt := 4) dX7_faultOf_114 (by decide) ?_
                    rw [show (0 : Int32) = b2i (letB (f p)) from by simp [b2i, c85]]
                    exact ih (p + 1) (letB (f p)) _ _ _ (by omega) (by rw [← he, flt_ok (by simp [okS, c72, c85, c91])])
                  · refine E_iload_n dX7_faultOf_94 rfl ?_
                    exact E_iretf dX7_faultOf_95 rfl rfl (by rw [← he, flt_no (by simp [okS, deedB, c72, c85, c91])]) rfl
              · have c72 := b2i_n0 c72
                refine E_iload dX7_faultOf_75 rfl ?_
                refine E_if_ne (tgt := 96) dX7_faultOf_77 (by decide) (fun _ => ?_) (fun c => by first | exact absurd c (by decide) | exact absurd (by decide) c)
                refine E_iload_n dX7_faultOf_96 rfl ?_
                refine E_if_ne (tgt := 109) dX7_faultOf_97 (by decide) (fun _ => ?_) (fun c => (b2i_x1 c72 c).elim)
                refine E_iconst (v := 0) dX7_faultOf_109 (by decide) ?_
                refine E_istore_n (l2 := [.ref 38, .int 0, .int (nI p), .int (f p), .int (b2i (letB (f p))), .int 1]) dX7_faultOf_110 rfl (by decide) rfl ?_
                refine E_iinc (y := nI (p + 1)) (l2 := [.ref 38, .int 0, .int (nI (p + 1)), .int (f p), .int (b2i (letB (f p))), .int 1]) dX7_faultOf_111 rfl (nI_1 _) (by decide) rfl ?_
                refine E_goto (tgt := 4) dX7_faultOf_114 (by decide) ?_
                have hdd : deedB (f p) = true := by simp [deedB, c37, c43, c49, c55]
                rw [show (0 : Int32) = b2i (letB (f p)) from by rw [deed_let hdd]; rfl]
                exact ih (p + 1) (letB (f p)) _ _ _ (by omega) (by rw [← he, flt_ok (by simp [okS, hdd, c72])])
            · refine E_iload_n dX7_faultOf_58 rfl ?_
              refine E_bipush (v := 94) dX7_faultOf_59 (by decide) ?_
              refine E_icmp_ne (tgt := 68) dX7_faultOf_61 (by decide) (fun c61 => ?_) (fun c61 => ?_)
              · refine E_iconst (v := 0) dX7_faultOf_68 (by decide) ?_
                refine E_istore (l2 := [.ref 38, .int (b2i b), .int (nI p), .int (f p), .int (b2i (letB (f p))), .int 0]) dX7_faultOf_69 (by decide) rfl ?_
                refine E_iload_n dX7_faultOf_71 rfl ?_
                refine E_if_eq (tgt := 83) dX7_faultOf_72 (by decide) (fun c72 => ?_) (fun c72 => ?_)
                · have c72 := b2i_e0 c72
                  refine E_iload dX7_faultOf_83 rfl ?_
                  refine E_if_ne (tgt := 96) dX7_faultOf_85 (by decide) (fun c85 => ?_) (fun c85 => ?_)
                  · have c85 := b2i_n0 c85
                    refine E_iload_n dX7_faultOf_96 rfl ?_
                    refine E_if_ne (tgt := 109) dX7_faultOf_97 (by decide) (fun c => (b2i_x0 c72 c).elim) (fun _ => ?_)
                    refine E_iload dX7_faultOf_100 rfl ?_
                    refine E_if_eq (tgt := 109) dX7_faultOf_102 (by decide) (fun c => (b2i_x1 c85 c).elim) (fun _ => ?_)
                    refine E_iconst (v := 1) dX7_faultOf_105 (by decide) ?_
                    refine E_goto (tgt := 110) dX7_faultOf_106 (by decide) ?_
                    refine E_istore_n (l2 := [.ref 38, .int 1, .int (nI p), .int (f p), .int (b2i (letB (f p))), .int 0]) dX7_faultOf_110 rfl (by decide) rfl ?_
                    refine E_iinc (y := nI (p + 1)) (l2 := [.ref 38, .int 1, .int (nI (p + 1)), .int (f p), .int (b2i (letB (f p))), .int 0]) dX7_faultOf_111 rfl (nI_1 _) (by decide) rfl ?_
                    refine E_goto (tgt := 4) dX7_faultOf_114 (by decide) ?_
                    rw [show (1 : Int32) = b2i (letB (f p)) from by simp [b2i, c85]]
                    exact ih (p + 1) (letB (f p)) _ _ _ (by omega) (by rw [← he, flt_ok (by simp [okS, c72, c85])])
                  · have c85 := b2i_e0 c85
                    refine E_iload_n dX7_faultOf_88 rfl ?_
                    refine E_bipush (v := 46) dX7_faultOf_89 (by decide) ?_
                    refine E_icmp_eq (tgt := 96) dX7_faultOf_91 (by decide) (fun c91 => ?_) (fun c91 => ?_)
                    · refine E_iload_n dX7_faultOf_96 rfl ?_
                      refine E_if_ne (tgt := 109) dX7_faultOf_97 (by decide) (fun c => (b2i_x0 c72 c).elim) (fun _ => ?_)
                      refine E_iload dX7_faultOf_100 rfl ?_
                      refine E_if_eq (tgt := 109) dX7_faultOf_102 (by decide) (fun _ => ?_) (fun c => (b2i_x0 c85 c).elim)
                      refine E_iconst (v := 0) dX7_faultOf_109 (by decide) ?_
                      refine E_istore_n (l2 := [.ref 38, .int 0, .int (nI p), .int (f p), .int (b2i (letB (f p))), .int 0]) dX7_faultOf_110 rfl (by decide) rfl ?_
                      refine E_iinc (y := nI (p + 1)) (l2 := [.ref 38, .int 0, .int (nI (p + 1)), .int (f p), .int (b2i (letB (f p))), .int 0]) dX7_faultOf_111 rfl (nI_1 _) (by decide) rfl ?_
                      refine E_goto (tgt := 4) dX7_faultOf_114 (by decide) ?_
                      rw [show (0 : Int32) = b2i (letB (f p)) from by simp [b2i, c85]]
                      exact ih (p + 1) (letB (f p)) _ _ _ (by omega) (by rw [← he, flt_ok (by simp [okS, c72, c85, c91])])
                    · refine E_iload_n dX7_faultOf_94 rfl ?_
                      exact E_iretf dX7_faultOf_95 rfl rfl (by rw [← he, flt_no (by simp [okS, deedB, c72, c85, c91])]) rfl
                · have c72 := b2i_n0 c72
                  refine E_iload dX7_faultOf_75 rfl ?_
                  refine E_if_ne (tgt := 96) dX7_faultOf_77 (by decide) (fun c => by first | exact absurd c (by decide) | exact absurd (by decide) c) (fun _ => ?_)
                  refine E_goto (tgt := 94) dX7_faultOf_80 (by decide) ?_
                  refine E_iload_n dX7_faultOf_94 rfl ?_
                  exact E_iretf dX7_faultOf_95 rfl rfl (by rw [← he, flt_no (by simp [okS, deedB, c72, c37, c43, c49, c55, c61])]) rfl
              · refine E_iconst (v := 1) dX7_faultOf_64 (by decide) ?_
                refine E_goto (tgt := 69) dX7_faultOf_65 (by decide) ?_
                refine E_istore (l2 := [.ref 38, .int (b2i b), .int (nI p), .int (f p), .int (b2i (letB (f p))), .int 1]) dX7_faultOf_69 (by decide) rfl ?_
                refine E_iload_n dX7_faultOf_71 rfl ?_
                refine E_if_eq (tgt := 83) dX7_faultOf_72 (by decide) (fun c72 => ?_) (fun c72 => ?_)
                · have c72 := b2i_e0 c72
                  refine E_iload dX7_faultOf_83 rfl ?_
                  refine E_if_ne (tgt := 96) dX7_faultOf_85 (by decide) (fun c85 => ?_) (fun c85 => ?_)
                  · have c85 := b2i_n0 c85
                    refine E_iload_n dX7_faultOf_96 rfl ?_
                    refine E_if_ne (tgt := 109) dX7_faultOf_97 (by decide) (fun c => (b2i_x0 c72 c).elim) (fun _ => ?_)
                    refine E_iload dX7_faultOf_100 rfl ?_
                    refine E_if_eq (tgt := 109) dX7_faultOf_102 (by decide) (fun c => (b2i_x1 c85 c).elim) (fun _ => ?_)
                    refine E_iconst (v := 1) dX7_faultOf_105 (by decide) ?_
                    refine E_goto (tgt := 110) dX7_faultOf_106 (by decide) ?_
                    refine E_istore_n (l2 := [.ref 38, .int 1, .int (nI p), .int (f p), .int (b2i (letB (f p))), .int 1]) dX7_faultOf_110 rfl (by decide) rfl ?_
                    refine E_iinc (y := nI (p + 1)) (l2 := [.ref 38, .int 1, .int (nI (p + 1)), .int (f p), .int (b2i (letB (f p))), .int 1]) dX7_faultOf_111 rfl (nI_1 _) (by decide) rfl ?_
                    refine E_goto (tgt := 4) dX7_faultOf_114 (by decide) ?_
                    rw [show (1 : Int32) = b2i (letB (f p)) from by simp [b2i, c85]]
                    exact ih (p + 1) (letB (f p)) _ _ _ (by omega) (by rw [← he, flt_ok (by simp [okS, c72, c85])])
                  · have c85 := b2i_e0 c85
                    refine E_iload_n dX7_faultOf_88 rfl ?_
                    refine E_bipush (v := 46) dX7_faultOf_89 (by decide) ?_
                    refine E_icmp_eq (tgt := 96) dX7_faultOf_91 (by decide) (fun c91 => ?_) (fun c91 => ?_)
                    · refine E_iload_n dX7_faultOf_96 rfl ?_
                      refine E_if_ne (tgt := 109) dX7_faultOf_97 (by decide) (fun c => (b2i_x0 c72 c).elim) (fun _ => ?_)
                      refine E_iload dX7_faultOf_100 rfl ?_
                      refine E_if_eq (tgt := 109) dX7_faultOf_102 (by decide) (fun _ => ?_) (fun c => (b2i_x0 c85 c).elim)
                      refine E_iconst (v := 0) dX7_faultOf_109 (by decide) ?_
                      refine E_istore_n (l2 := [.ref 38, .int 0, .int (nI p), .int (f p), .int (b2i (letB (f p))), .int 1]) dX7_faultOf_110 rfl (by decide) rfl ?_
                      refine E_iinc (y := nI (p + 1)) (l2 := [.ref 38, .int 0, .int (nI (p + 1)), .int (f p), .int (b2i (letB (f p))), .int 1]) dX7_faultOf_111 rfl (nI_1 _) (by decide) rfl ?_
                      refine E_goto (tgt := 4) dX7_faultOf_114 (by decide) ?_
                      rw [show (0 : Int32) = b2i (letB (f p)) from by simp [b2i, c85]]
                      exact ih (p + 1) (letB (f p)) _ _ _ (by omega) (by rw [← he, flt_ok (by simp [okS, c72, c85, c91])])
                    · refine E_iload_n dX7_faultOf_94 rfl ?_
                      exact E_iretf dX7_faultOf_95 rfl rfl (by rw [← he, flt_no (by simp [okS, deedB, c72, c85, c91])]) rfl
                · have c72 := b2i_n0 c72
                  refine E_iload dX7_faultOf_75 rfl ?_
                  refine E_if_ne (tgt := 96) dX7_faultOf_77 (by decide) (fun _ => ?_) (fun c => by first | exact absurd c (by decide) | exact absurd (by decide) c)
                  refine E_iload_n dX7_faultOf_96 rfl ?_
                  refine E_if_ne (tgt := 109) dX7_faultOf_97 (by decide) (fun _ => ?_) (fun c => (b2i_x1 c72 c).elim)
                  refine E_iconst (v := 0) dX7_faultOf_109 (by decide) ?_
                  refine E_istore_n (l2 := [.ref 38, .int 0, .int (nI p), .int (f p), .int (b2i (letB (f p))), .int 1]) dX7_faultOf_110 rfl (by decide) rfl ?_
                  refine E_iinc (y := nI (p + 1)) (l2 := [.ref 38, .int 0, .int (nI (p + 1)), .int (f p), .int (b2i (letB (f p))), .int 1]) dX7_faultOf_111 rfl (nI_1 _) (by decide) rfl ?_
                  refine E_goto (tgt := 4) dX7_faultOf_114 (by decide) ?_
                  have hdd : deedB (f p) = true := by simp [deedB, c37, c43, c49, c55, c61]
                  rw [show (0 : Int32) = b2i (letB (f p)) from by rw [deed_let hdd]; rfl]
                  exact ih (p + 1) (letB (f p)) _ _ _ (by omega) (by rw [← he, flt_ok (by simp [okS, hdd, c72])])
  exact L n 0 false _ _ _ (by omega) rfl

set_option maxHeartbeats 4000000 in
set_option maxRecDepth 20000 in
theorem m_fault (d : Nat) (bu fl fa fw fr rs ac : Int32) (q n : Nat) (f : Nat → Int32) (hn : n ≤ 60) : FC YX7_fault (d + 2) [.ref 38] [(38, .inr (7, [.ref 39, .ref 40, .int bu, .int (nI q), .ref 41, .int (nI n), .ref 42, .int fl, .int fa, .int fw, .int fr, .int rs, .int ac, .ref 43, .ref 44, .ref 45, .ref 46, .ref 47, .ref 48, .ref 49])), (42, .inl (false, 60, f))] (some (.int (flt f n 0 false))) [(38, .inr (7, [.ref 39, .ref 40, .int bu, .int (nI q), .ref 41, .int (nI n), .ref 42, .int fl, .int fa, .int fw, .int fr, .int rs, .int ac, .ref 43, .ref 44, .ref 45, .ref 46, .ref 47, .ref 48, .ref 49])), (42, .inl (false, 60, f))] := by
  intro hp
  refine E_aload_n dX7_fault_0 rfl ?_
  refine E_callV (As := []) (l' := [.ref 38, .null, .null, .null, .null, .null]) (st := []) dX7_fault_1 kX7_63 iX7_faultOf vX7_faultOf (by decide) rfl rfl MX7_faultOf rfl rfl (Nat.le_of_ble_eq_true rfl) (FC.use (m_faultOf d bu fl fa fw fr rs ac q n f hn) rfl (L2 := [(38, .inr (7, [.ref 39, .ref 40, .int bu, .int (nI q), .ref 41, .int (nI n), .ref 42, .int fl, .int fa, .int fw, .int fr, .int rs, .int ac, .ref 43, .ref 44, .ref 45, .ref 46, .ref 47, .ref 48, .ref 49])), (42, .inl (false, 60, f))]) rfl) (Nat.le_of_ble_eq_true rfl) (fun _ _ hq9 => E_fgo ?_ hq9)
  show E _ _ 4 [.ref 38] [.int (flt f n 0 false)] (hov hp [(38, .inr (7, [.ref 39, .ref 40, .int bu, .int (nI q), .ref 41, .int (nI n), .ref 42, .int fl, .int fa, .int fw, .int fr, .int rs, .int ac, .ref 43, .ref 44, .ref 45, .ref 46, .ref 47, .ref 48, .ref 49])), (42, .inl (false, 60, f))]) _
  exact E_iretf dX7_fault_4 rfl rfl rfl rfl

theorem celB_bd {s : Int32} (h : celB s = true) : Bd 25 (s - 97) := by
  have hs := tI97.mp h
  obtain ⟨j, hj, e⟩ : ∃ j : Nat, j < 2 ^ 31 ∧ s = nI j := nI_of (by rw [Int32.lt_iff_toInt_lt]; show ¬ s.toInt < 0; omega)
  subst e
  rw [nI_toInt hj] at hs
  exact ⟨j - 97, by omega, pk_sub (a := j) (b := 97) (by omega)⟩
set_option maxHeartbeats 4000000 in
set_option maxRecDepth 20000 in
theorem m_goWeeks (d : Nat) (bu fl fa fw fr rs ac : Int32) (q n : Nat) (f : Nat → Int32) (hn : n ≤ 60) (s t : CS) (hs : OkS s) (hf : flt f n 0 false = -6) : FR YX7_goWeeks (d + 5) [.ref 38, .null, .null, .null] [(38, .inr (7, [.ref 39, .ref 40, .int (sbu s), .int (nI q), .ref 41, .int (nI n), .ref 42, .int fl, .int fa, .int fw, .int fr, .int rs, .int ac, .ref 43, .ref 44, .ref 45, .ref 46, .ref 47, .ref 48, .ref 49])), (39, .inl (false, 22, (bkF s))), (40, .inl (false, 22, (bkF t))), (42, .inl (false, 60, f))] (fun v M => ∃ fr' rs' : Int32, M = [(38, .inr (7, [.ref 39, .ref 40, .int (sbu s), .int (nI q), .ref 41, .int (nI n), .ref 42, .int (wF ((wk f n 0 (wk0 s)).1)), .int (wG ((wk f n 0 (wk0 s)).1)), .int (wH ((wk f n 0 (wk0 s)).1)), .int fr', .int rs', .int (nI (wA ((wk f n 0 (wk0 s)).1))), .ref 43, .ref 44, .ref 45, .ref 46, .ref 47, .ref 48, .ref 49])), (39, .inl (false, 22, (bkF s))), (40, .inl (false, 22, (bkF (wS (wk f n 0 (wk0 s)).1)))), (42, .inl (false, 60, f))] ∧ v = some (.int (stA (wk f n 0 (wk0 s)))) ∧ (¬ (wk f n 0 (wk0 s)).2 = 0 → rs' = (wk f n 0 (wk0 s)).2)) := by
  intro hp
  refine E_aload_n dX7_goWeeks_0 rfl ?_
  refine E_callV (As := []) (l' := [.ref 38, .null]) (st := []) dX7_goWeeks_1 kX7_93 iX7_asNow vX7_asNow (by decide) rfl rfl MX7_asNow rfl rfl (Nat.le_of_ble_eq_true rfl) (FC.use (c_asNow (d + 4) (sbu s) fl fa fw fr rs ac q n s t) rfl (L2 := [(38, .inr (7, [.ref 39, .ref 40, .int (sbu s), .int (nI q), .ref 41, .int (nI n), .ref 42, .int 0, .int (-6), .int (-6), .int fr, .int rs, .int ac, .ref 43, .ref 44, .ref 45, .ref 46, .ref 47, .ref 48, .ref 49])), (39, .inl (false, 22, (bkF s))), (40, .inl (false, 22, (bkF s))), (42, .inl (false, 60, f))]) rfl) (Nat.le_of_ble_eq_true rfl) (fun _ _ hq9 => E_fgo ?_ hq9)
  show E _ _ 4 [.ref 38, .null, .null, .null] [] (hov hp [(38, .inr (7, [.ref 39, .ref 40, .int (sbu s), .int (nI q), .ref 41, .int (nI n), .ref 42, .int 0, .int (-6), .int (-6), .int fr, .int rs, .int ac, .ref 43, .ref 44, .ref 45, .ref 46, .ref 47, .ref 48, .ref 49])), (39, .inl (false, 22, (bkF s))), (40, .inl (false, 22, (bkF s))), (42, .inl (false, 60, f))]) _
  refine E_aload_n dX7_goWeeks_4 rfl ?_
  refine E_iconst (v := 0) dX7_goWeeks_5 (by decide) ?_
  refine E_puti (fs2 := [.ref 39, .ref 40, .int (sbu s), .int (nI q), .ref 41, .int (nI n), .ref 42, .int 0, .int (-6), .int (-6), .int fr, .int rs, .int 0, .ref 43, .ref 44, .ref 45, .ref 46, .ref 47, .ref 48, .ref 49]) (L2 := [(38, .inr (7, [.ref 39, .ref 40, .int (sbu s), .int (nI q), .ref 41, .int (nI n), .ref 42, .int 0, .int (-6), .int (-6), .int fr, .int rs, .int 0, .ref 43, .ref 44, .ref 45, .ref 46, .ref 47, .ref 48, .ref 49])), (39, .inl (false, 22, (bkF s))), (40, .inl (false, 22, (bkF s))), (42, .inl (false, 60, f))]) dX7_goWeeks_6 fX7_96 fpX7_12 (by decide) rfl (Nat.le_of_ble_eq_true rfl) rfl rfl ?_
  refine E_iconst (v := 0) dX7_goWeeks_9 (by decide) ?_
  refine E_istore_n (l2 := [.ref 38, .int 0, .null, .null]) dX7_goWeeks_10 rfl (by decide) rfl ?_
  have L : ∀ (k p : Nat) (w : WS) (l2 l3 : Value) (fr rs : Int32), p + k = n → flt f k p false = -6 → wk f k p w = (wk f n 0 (wk0 s)) → OkS (wS w) → sbu (wS w) = sbu s → GOK (wG w) → wA w ≤ p → E YX7_goWeeks (d + 5) 11 [.ref 38, .int (nI p), l2, l3] [] (hov hp [(38, .inr (7, [.ref 39, .ref 40, .int (sbu s), .int (nI q), .ref 41, .int (nI n), .ref 42, .int (wF w), .int (wG w), .int (wH w), .int fr, .int rs, .int (nI (wA w)), .ref 43, .ref 44, .ref 45, .ref 46, .ref 47, .ref 48, .ref 49])), (39, .inl (false, 22, (bkF s))), (40, .inl (false, 22, (bkF (wS w)))), (42, .inl (false, 60, f))]) (fun v h' => ∃ M, h' = hov hp M ∧ (fun v M => ∃ fr' rs' : Int32, M = [(38, .inr (7, [.ref 39, .ref 40, .int (sbu s), .int (nI q), .ref 41, .int (nI n), .ref 42, .int (wF ((wk f n 0 (wk0 s)).1)), .int (wG ((wk f n 0 (wk0 s)).1)), .int (wH ((wk f n 0 (wk0 s)).1)), .int fr', .int rs', .int (nI (wA ((wk f n 0 (wk0 s)).1))), .ref 43, .ref 44, .ref 45, .ref 46, .ref 47, .ref 48, .ref 49])), (39, .inl (false, 22, (bkF s))), (40, .inl (false, 22, (bkF (wS (wk f n 0 (wk0 s)).1)))), (42, .inl (false, 60, f))] ∧ v = some (.int (stA (wk f n 0 (wk0 s)))) ∧ (¬ (wk f n 0 (wk0 s)).2 = 0 → rs' = (wk f n 0 (wk0 s)).2)) v M) := by
    intro k
    induction k using Nat.strongRecOn with
    | _ k ih =>
    intro p w l2 l3 fr rs hpk hfl he hok hbu hgk hac
    cases k with
    | zero =>
      have hpk : p = n := by omega
      subst hpk
      refine E_iload_n dX7_goWeeks_11 rfl ?_
      refine E_aload_n dX7_goWeeks_12 rfl ?_
      refine E_get dX7_goWeeks_13 fX7_60 (by decide) rfl rfl ?_
      refine E_icmp_ge (tgt := 212) dX7_goWeeks_16 (by decide) (fun _ => ?_) (fun c => absurd (nI_le (Nat.le_refl _) (by omega)) c)
      refine E_bipush (v := (-6)) dX7_goWeeks_212 (by decide) ?_
      exact E_iret (st := []) dX7_goWeeks_214 rfl rfl ⟨_, rfl, fr, rs, by rw [← he]; rfl, by rw [← he]; rfl, fun h => absurd (by rw [← he]; rfl) h⟩
    | succ k =>
      have hlt : p < n := by omega
      have hok2 : okS false (f p) = true := by
        cases h : okS false (f p) with
        | true => rfl
        | false => rw [flt_no h] at hfl; exact absurd hfl (nI_m6 (by omega))
      by_cases h46 : f p = 46
      · have hl : letB (f p) = false := by rw [h46]; rfl
        rw [flt_ok hok2, hl] at hfl
        by_cases hr : rsn (wS w) 5 0 0 = 0
        · have hn99 : sni (wS w) < 99 := by
            simp only [rsn] at hr
            by_cases b : sni (wS w) < 99
            · exact b
            · rw [if_neg b] at hr; exact absurd hr (by decide)
          refine E_iload_n dX7_goWeeks_11 rfl ?_
          refine E_aload_n dX7_goWeeks_12 rfl ?_
          refine E_get dX7_goWeeks_13 fX7_60 (by decide) rfl rfl ?_
          refine E_icmp_ge (tgt := 212) dX7_goWeeks_16 (by decide) (fun c => absurd c (nI_ge (by omega) (by omega))) (fun _ => ?_)
          refine E_aload_n dX7_goWeeks_19 rfl ?_
          refine E_iconst (v := 0) dX7_goWeeks_20 (by decide) ?_
          refine E_puti (fs2 := [.ref 39, .ref 40, .int (sbu s), .int (nI q), .ref 41, .int (nI n), .ref 42, .int (wF w), .int (wG w), .int (wH w), .int 0, .int rs, .int (nI (wA w)), .ref 43, .ref 44, .ref 45, .ref 46, .ref 47, .ref 48, .ref 49]) (L2 := [(38, .inr (7, [.ref 39, .ref 40, .int (sbu s), .int (nI q), .ref 41, .int (nI n), .ref 42, .int (wF w), .int (wG w), .int (wH w), .int 0, .int rs, .int (nI (wA w)), .ref 43, .ref 44, .ref 45, .ref 46, .ref 47, .ref 48, .ref 49])), (39, .inl (false, 22, (bkF s))), (40, .inl (false, 22, (bkF (wS w)))), (42, .inl (false, 60, f))]) dX7_goWeeks_21 fX7_90 fpX7_10 (by decide) rfl (Nat.le_of_ble_eq_true rfl) rfl rfl ?_
          refine E_aload_n dX7_goWeeks_24 rfl ?_
          refine E_get dX7_goWeeks_25 fX7_23 (by decide) rfl rfl ?_
          refine E_iload_n dX7_goWeeks_28 rfl ?_
          refine E_ialdN (j := p) dX7_goWeeks_29 (by decide) rfl (by omega) (by decide) ?_
          refine E_eqi (y := 46) h46 ?_
          refine E_bipush (v := 46) dX7_goWeeks_30 (by decide) ?_
          refine E_icmp_ne (tgt := 49) dX7_goWeeks_32 (by decide) (fun c => by first | exact absurd c (by decide) | exact absurd (by decide) c) (fun _ => ?_)
          refine E_aload_n dX7_goWeeks_35 rfl ?_
          refine E_aload_n dX7_goWeeks_36 rfl ?_
          refine E_callV (As := []) (l' := [.ref 38]) (st := [.ref 38]) dX7_goWeeks_37 kX7_99 iX7_endNight vX7_endNight (by decide) rfl rfl MX7_endNight rfl rfl (Nat.le_of_ble_eq_true rfl) (FC.use (m_night0 (d + 1) (sbu s) (wF w) (wG w) (wH w) 0 rs (nI (wA w)) q n (wS w) hok hn99) rfl (L2 := [(38, .inr (7, [.ref 39, .ref 40, .int (sbu s), .int (nI q), .ref 41, .int (nI n), .ref 42, .int (wF w + bcI (ngF (wS w))), .int (wG w), .int (wH w), .int (ngF (wS w)), .int rs, .int (nI (wA w)), .ref 43, .ref 44, .ref 45, .ref 46, .ref 47, .ref 48, .ref 49])), (39, .inl (false, 22, (bkF s))), (40, .inl (false, 22, (bkF (ngS (wS w))))), (42, .inl (false, 60, f))]) rfl) (Nat.le_of_ble_eq_true rfl) (fun _ _ hq9 => E_fgo ?_ hq9)
          show E _ _ 40 [.ref 38, .int (nI p), l2, l3] [.int (rsn (wS w) 5 0 0), .ref 38] (hov hp [(38, .inr (7, [.ref 39, .ref 40, .int (sbu s), .int (nI q), .ref 41, .int (nI n), .ref 42, .int (wF w + bcI (ngF (wS w))), .int (wG w), .int (wH w), .int (ngF (wS w)), .int rs, .int (nI (wA w)), .ref 43, .ref 44, .ref 45, .ref 46, .ref 47, .ref 48, .ref 49])), (39, .inl (false, 22, (bkF s))), (40, .inl (false, 22, (bkF (ngS (wS w))))), (42, .inl (false, 60, f))]) _
          refine E_eqi (y := 0) hr ?_
          refine E_puti (fs2 := [.ref 39, .ref 40, .int (sbu s), .int (nI q), .ref 41, .int (nI n), .ref 42, .int (wF w + bcI (ngF (wS w))), .int (wG w), .int (wH w), .int (ngF (wS w)), .int 0, .int (nI (wA w)), .ref 43, .ref 44, .ref 45, .ref 46, .ref 47, .ref 48, .ref 49]) (L2 := [(38, .inr (7, [.ref 39, .ref 40, .int (sbu s), .int (nI q), .ref 41, .int (nI n), .ref 42, .int (wF w + bcI (ngF (wS w))), .int (wG w), .int (wH w), .int (ngF (wS w)), .int 0, .int (nI (wA w)), .ref 43, .ref 44, .ref 45, .ref 46, .ref 47, .ref 48, .ref 49])), (39, .inl (false, 22, (bkF s))), (40, .inl (false, 22, (bkF (ngS (wS w))))), (42, .inl (false, 60, f))]) dX7_goWeeks_40 fX7_102 fpX7_11 (by decide) rfl (Nat.le_of_ble_eq_true rfl) rfl rfl ?_
          refine E_iinc (y := nI (p + 1)) (l2 := [.ref 38, .int (nI (p + 1)), l2, l3]) dX7_goWeeks_43 rfl (nI_1 _) (by decide) rfl ?_
          refine E_goto (tgt := 142) dX7_goWeeks_46 (by decide) ?_
          refine E_aload_n dX7_goWeeks_142 rfl ?_
          refine E_get dX7_goWeeks_143 fX7_102 (by decide) rfl rfl ?_
          refine E_if_le (tgt := 154) dX7_goWeeks_146 (by decide) (fun _ => ?_) (fun c => by first | exact absurd c (by decide) | exact absurd (by decide) c)
          refine E_iconst (v := 0) dX7_goWeeks_154 (by decide) ?_
          refine E_istore_n (l2 := [.ref 38, .int (nI (p + 1)), .int 0, l3]) dX7_goWeeks_155 rfl (by decide) rfl ?_
          have K199 : ∀ l2 : Value, E YX7_goWeeks (d + 5) 199 [.ref 38, .int (nI (p + 1)), l2, l3] [] (hov hp [(38, .inr (7, [.ref 39, .ref 40, .int (sbu s), .int (nI q), .ref 41, .int (nI n), .ref 42, .int (wF w + bcI (ngF (wS w))), .int (ntG (nI (wA w)) (ngF (wS w)) (wG w) (wH w)), .int (ntH (nI (wA w)) (ngF (wS w)) (wG w) (wH w)), .int (ngF (wS w)), .int 0, .int (nI (wA w)), .ref 43, .ref 44, .ref 45, .ref 46, .ref 47, .ref 48, .ref 49])), (39, .inl (false, 22, (bkF s))), (40, .inl (false, 22, (bkF (ngS (wS w))))), (42, .inl (false, 60, f))]) (fun v h' => ∃ M, h' = hov hp M ∧ (fun v M => ∃ fr' rs' : Int32, M = [(38, .inr (7, [.ref 39, .ref 40, .int (sbu s), .int (nI q), .ref 41, .int (nI n), .ref 42, .int (wF ((wk f n 0 (wk0 s)).1)), .int (wG ((wk f n 0 (wk0 s)).1)), .int (wH ((wk f n 0 (wk0 s)).1)), .int fr', .int rs', .int (nI (wA ((wk f n 0 (wk0 s)).1))), .ref 43, .ref 44, .ref 45, .ref 46, .ref 47, .ref 48, .ref 49])), (39, .inl (false, 22, (bkF s))), (40, .inl (false, 22, (bkF (wS (wk f n 0 (wk0 s)).1)))), (42, .inl (false, 60, f))] ∧ v = some (.int (stA (wk f n 0 (wk0 s)))) ∧ (¬ (wk f n 0 (wk0 s)).2 = 0 → rs' = (wk f n 0 (wk0 s)).2)) v M) := by
            intro l2
            refine E_aload_n dX7_goWeeks_199 rfl ?_
            refine E_dup dX7_goWeeks_200 rfl ?_
            refine E_get dX7_goWeeks_201 fX7_96 (by decide) rfl rfl ?_
            refine E_iconst (v := 1) dX7_goWeeks_204 (by decide) ?_
            refine E_iadd dX7_goWeeks_205 ?_
            refine E_eqi (y := nI (wA w + 1)) (nI_1 _) ?_
            refine E_puti (fs2 := [.ref 39, .ref 40, .int (sbu s), .int (nI q), .ref 41, .int (nI n), .ref 42, .int (wF w + bcI (ngF (wS w))), .int (ntG (nI (wA w)) (ngF (wS w)) (wG w) (wH w)), .int (ntH (nI (wA w)) (ngF (wS w)) (wG w) (wH w)), .int (ngF (wS w)), .int 0, .int (nI (wA w + 1)), .ref 43, .ref 44, .ref 45, .ref 46, .ref 47, .ref 48, .ref 49]) (L2 := [(38, .inr (7, [.ref 39, .ref 40, .int (sbu s), .int (nI q), .ref 41, .int (nI n), .ref 42, .int (wF w + bcI (ngF (wS w))), .int (ntG (nI (wA w)) (ngF (wS w)) (wG w) (wH w)), .int (ntH (nI (wA w)) (ngF (wS w)) (wG w) (wH w)), .int (ngF (wS w)), .int 0, .int (nI (wA w + 1)), .ref 43, .ref 44, .ref 45, .ref 46, .ref 47, .ref 48, .ref 49])), (39, .inl (false, 22, (bkF s))), (40, .inl (false, 22, (bkF (ngS (wS w))))), (42, .inl (false, 60, f))]) dX7_goWeeks_206 fX7_96 fpX7_12 (by decide) rfl (Nat.le_of_ble_eq_true rfl) rfl rfl ?_
            refine E_goto (tgt := 11) dX7_goWeeks_209 (by decide) ?_
            have e9 := ih _ (by omega) (p + 1) (wkn w 5 0 0) l2 l3 (ngF (wS w)) 0 (by omega) hfl (by rw [← he, wk_n0 h46 hr]) (by rw [wkn_S]; exact prS_ok hok (by first | omega | exact hh.1) (by decide) (by first | exact hc0 | (intro h; exact absurd h (by decide))) hr) (by rw [wkn_S, prS_bu]; exact hbu) (by rw [wkn_G]; exact ntG_gok (by omega) hgk) (by rw [wkn_A]; omega)
            simp only [wkn_S, wkn_A, wkn_F, wkn_G, wkn_H] at e9
            rw [show prF (wS w) 5 = ngF (wS w) from rfl] at e9
            exact e9
          have LF : ∀ j, j ≤ 6 → E YX7_goWeeks (d + 5) 156 [.ref 38, .int (nI (p + 1)), .int (nI j), l3] [] (hov hp [(38, .inr (7, [.ref 39, .ref 40, .int (sbu s), .int (nI q), .ref 41, .int (nI n), .ref 42, .int (wF w + bcI (ngF (wS w))), .int ((nt (nI (wA w)) (ngF (wS w)) (wG w) (wH w) j).1), .int ((nt (nI (wA w)) (ngF (wS w)) (wG w) (wH w) j).2), .int (ngF (wS w)), .int 0, .int (nI (wA w)), .ref 43, .ref 44, .ref 45, .ref 46, .ref 47, .ref 48, .ref 49])), (39, .inl (false, 22, (bkF s))), (40, .inl (false, 22, (bkF (ngS (wS w))))), (42, .inl (false, 60, f))]) (fun v h' => ∃ M, h' = hov hp M ∧ (fun v M => ∃ fr' rs' : Int32, M = [(38, .inr (7, [.ref 39, .ref 40, .int (sbu s), .int (nI q), .ref 41, .int (nI n), .ref 42, .int (wF ((wk f n 0 (wk0 s)).1)), .int (wG ((wk f n 0 (wk0 s)).1)), .int (wH ((wk f n 0 (wk0 s)).1)), .int fr', .int rs', .int (nI (wA ((wk f n 0 (wk0 s)).1))), .ref 43, .ref 44, .ref 45, .ref 46, .ref 47, .ref 48, .ref 49])), (39, .inl (false, 22, (bkF s))), (40, .inl (false, 22, (bkF (wS (wk f n 0 (wk0 s)).1)))), (42, .inl (false, 60, f))] ∧ v = some (.int (stA (wk f n 0 (wk0 s)))) ∧ (¬ (wk f n 0 (wk0 s)).2 = 0 → rs' = (wk f n 0 (wk0 s)).2)) v M) := by
            refine down 6 ?_ ?_
            · refine E_iload_n dX7_goWeeks_156 rfl ?_
              refine E_bipush (v := 6) dX7_goWeeks_157 (by decide) ?_
              refine E_icmp_ge (tgt := 199) dX7_goWeeks_159 (by decide) (fun _ => ?_) (fun c => absurd (by decide) c)
              exact K199 _
            · intro j hj ihj
              have hgj := nt_gok (a := wA w) (x := (ngF (wS w))) (h := wH w) (by omega) hgk j
              refine E_iload_n dX7_goWeeks_156 rfl ?_
              refine E_bipush (v := 6) dX7_goWeeks_157 (by decide) ?_
              refine E_icmp_ge (tgt := 199) dX7_goWeeks_159 (by decide) (fun c => absurd c (cI_nle (n := 6) rfl hj (by decide))) (fun _ => ?_)
              refine E_aload_n dX7_goWeeks_162 rfl ?_
              refine E_get dX7_goWeeks_163 fX7_70 (by decide) rfl rfl ?_
              refine E_if_ge (tgt := 199) dX7_goWeeks_166 (by decide) (fun c166 => ?_) (fun c166 => ?_)
              · have k166 := ntG_6 (Nat.le_of_lt hj) (hgj.pos c166)
                have e9 := K199 (.int (nI j))
                rw [k166.1, k166.2] at e9
                exact e9
              · have k166 := hgj.neg c166
                refine E_aload_n dX7_goWeeks_169 rfl ?_
                refine E_get dX7_goWeeks_170 fX7_90 (by decide) rfl rfl ?_
                refine E_iload_n dX7_goWeeks_173 rfl ?_
                refine E_callS (As := [.int (ngF (wS w)), .int (nI j)]) (l' := [.int (ngF (wS w)), .int (nI j)]) (st := []) dX7_goWeeks_174 kX7_80 sX7_has MX7_has rfl rfl (Nat.le_of_ble_eq_true rfl) (FC.use (c_has (d + 4) _ _) rfl (L2 := [(38, .inr (7, [.ref 39, .ref 40, .int (sbu s), .int (nI q), .ref 41, .int (nI n), .ref 42, .int (wF w + bcI (ngF (wS w))), .int ((nt (nI (wA w)) (ngF (wS w)) (wG w) (wH w) j).1), .int ((nt (nI (wA w)) (ngF (wS w)) (wG w) (wH w) j).2), .int (ngF (wS w)), .int 0, .int (nI (wA w)), .ref 43, .ref 44, .ref 45, .ref 46, .ref 47, .ref 48, .ref 49])), (39, .inl (false, 22, (bkF s))), (40, .inl (false, 22, (bkF (ngS (wS w))))), (42, .inl (false, 60, f))]) rfl) (Nat.le_of_ble_eq_true rfl) (fun _ _ hq9 => E_fgo ?_ hq9)
                show E _ _ 177 [.ref 38, .int (nI (p + 1)), .int (nI j), l3] [.int (b2i (hbt (ngF (wS w)) (nI j)))] (hov hp [(38, .inr (7, [.ref 39, .ref 40, .int (sbu s), .int (nI q), .ref 41, .int (nI n), .ref 42, .int (wF w + bcI (ngF (wS w))), .int ((nt (nI (wA w)) (ngF (wS w)) (wG w) (wH w) j).1), .int ((nt (nI (wA w)) (ngF (wS w)) (wG w) (wH w) j).2), .int (ngF (wS w)), .int 0, .int (nI (wA w)), .ref 43, .ref 44, .ref 45, .ref 46, .ref 47, .ref 48, .ref 49])), (39, .inl (false, 22, (bkF s))), (40, .inl (false, 22, (bkF (ngS (wS w))))), (42, .inl (false, 60, f))]) _
                refine E_if_eq (tgt := 193) dX7_goWeeks_177 (by decide) (fun c177 => ?_) (fun c177 => ?_)
                · have c177 := b2i_e0 c177
                  refine E_iinc (y := nI (j + 1)) (l2 := [.ref 38, .int (nI (p + 1)), .int (nI (j + 1)), l3]) dX7_goWeeks_193 rfl (nI_1 _) (by decide) rfl ?_
                  refine E_goto (tgt := 156) dX7_goWeeks_196 (by decide) ?_
                  have e9 := ihj
                  rw [nt_f c177] at e9
                  exact e9
                · have c177 := b2i_n0 c177
                  refine E_aload_n dX7_goWeeks_180 rfl ?_
                  refine E_aload_n dX7_goWeeks_181 rfl ?_
                  refine E_get dX7_goWeeks_182 fX7_96 (by decide) rfl rfl ?_
                  refine E_puti (fs2 := [.ref 39, .ref 40, .int (sbu s), .int (nI q), .ref 41, .int (nI n), .ref 42, .int (wF w + bcI (ngF (wS w))), .int (nI (wA w)), .int ((nt (nI (wA w)) (ngF (wS w)) (wG w) (wH w) j).2), .int (ngF (wS w)), .int 0, .int (nI (wA w)), .ref 43, .ref 44, .ref 45, .ref 46, .ref 47, .ref 48, .ref 49]) (L2 := [(38, .inr (7, [.ref 39, .ref 40, .int (sbu s), .int (nI q), .ref 41, .int (nI n), .ref 42, .int (wF w + bcI (ngF (wS w))), .int (nI (wA w)), .int ((nt (nI (wA w)) (ngF (wS w)) (wG w) (wH w) j).2), .int (ngF (wS w)), .int 0, .int (nI (wA w)), .ref 43, .ref 44, .ref 45, .ref 46, .ref 47, .ref 48, .ref 49])), (39, .inl (false, 22, (bkF s))), (40, .inl (false, 22, (bkF (ngS (wS w))))), (42, .inl (false, 60, f))]) dX7_goWeeks_185 fX7_70 fpX7_8 (by decide) rfl (Nat.le_of_ble_eq_true rfl) rfl rfl ?_
                  refine E_aload_n dX7_goWeeks_188 rfl ?_
                  refine E_iload_n dX7_goWeeks_189 rfl ?_
                  refine E_puti (fs2 := [.ref 39, .ref 40, .int (sbu s), .int (nI q), .ref 41, .int (nI n), .ref 42, .int (wF w + bcI (ngF (wS w))), .int (nI (wA w)), .int (nI j), .int (ngF (wS w)), .int 0, .int (nI (wA w)), .ref 43, .ref 44, .ref 45, .ref 46, .ref 47, .ref 48, .ref 49]) (L2 := [(38, .inr (7, [.ref 39, .ref 40, .int (sbu s), .int (nI q), .ref 41, .int (nI n), .ref 42, .int (wF w + bcI (ngF (wS w))), .int (nI (wA w)), .int (nI j), .int (ngF (wS w)), .int 0, .int (nI (wA w)), .ref 43, .ref 44, .ref 45, .ref 46, .ref 47, .ref 48, .ref 49])), (39, .inl (false, 22, (bkF s))), (40, .inl (false, 22, (bkF (ngS (wS w))))), (42, .inl (false, 60, f))]) dX7_goWeeks_190 fX7_73 fpX7_9 (by decide) rfl (Nat.le_of_ble_eq_true rfl) rfl rfl ?_
                  refine E_iinc (y := nI (j + 1)) (l2 := [.ref 38, .int (nI (p + 1)), .int (nI (j + 1)), l3]) dX7_goWeeks_193 rfl (nI_1 _) (by decide) rfl ?_
                  refine E_goto (tgt := 156) dX7_goWeeks_196 (by decide) ?_
                  have e9 := ihj
                  rw [nt_t k166 c177] at e9
                  exact e9
          exact LF 0 (by decide)
        · have h99 : sni (wS w) = 99 := by
            obtain ⟨k9, hk9, e9⟩ := hok.2.2.2.2.2.2.2.1
            simp only [rsn] at hr
            by_cases b : sni (wS w) < 99
            · rw [if_pos b] at hr; exact absurd rfl hr
            · rw [e9] at b ⊢
              have : ¬ k9 < 99 := fun q => b (nI_lt (b := 99) q (by decide))
              rw [show k9 = 99 by omega]; rfl
          refine E_iload_n dX7_goWeeks_11 rfl ?_
          refine E_aload_n dX7_goWeeks_12 rfl ?_
          refine E_get dX7_goWeeks_13 fX7_60 (by decide) rfl rfl ?_
          refine E_icmp_ge (tgt := 212) dX7_goWeeks_16 (by decide) (fun c => absurd c (nI_ge (by omega) (by omega))) (fun _ => ?_)
          refine E_aload_n dX7_goWeeks_19 rfl ?_
          refine E_iconst (v := 0) dX7_goWeeks_20 (by decide) ?_
          refine E_puti (fs2 := [.ref 39, .ref 40, .int (sbu s), .int (nI q), .ref 41, .int (nI n), .ref 42, .int (wF w), .int (wG w), .int (wH w), .int 0, .int rs, .int (nI (wA w)), .ref 43, .ref 44, .ref 45, .ref 46, .ref 47, .ref 48, .ref 49]) (L2 := [(38, .inr (7, [.ref 39, .ref 40, .int (sbu s), .int (nI q), .ref 41, .int (nI n), .ref 42, .int (wF w), .int (wG w), .int (wH w), .int 0, .int rs, .int (nI (wA w)), .ref 43, .ref 44, .ref 45, .ref 46, .ref 47, .ref 48, .ref 49])), (39, .inl (false, 22, (bkF s))), (40, .inl (false, 22, (bkF (wS w)))), (42, .inl (false, 60, f))]) dX7_goWeeks_21 fX7_90 fpX7_10 (by decide) rfl (Nat.le_of_ble_eq_true rfl) rfl rfl ?_
          refine E_aload_n dX7_goWeeks_24 rfl ?_
          refine E_get dX7_goWeeks_25 fX7_23 (by decide) rfl rfl ?_
          refine E_iload_n dX7_goWeeks_28 rfl ?_
          refine E_ialdN (j := p) dX7_goWeeks_29 (by decide) rfl (by omega) (by decide) ?_
          refine E_eqi (y := 46) h46 ?_
          refine E_bipush (v := 46) dX7_goWeeks_30 (by decide) ?_
          refine E_icmp_ne (tgt := 49) dX7_goWeeks_32 (by decide) (fun c => by first | exact absurd c (by decide) | exact absurd (by decide) c) (fun _ => ?_)
          refine E_aload_n dX7_goWeeks_35 rfl ?_
          refine E_aload_n dX7_goWeeks_36 rfl ?_
          refine E_callV (As := []) (l' := [.ref 38]) (st := [.ref 38]) dX7_goWeeks_37 kX7_99 iX7_endNight vX7_endNight (by decide) rfl rfl MX7_endNight rfl rfl (Nat.le_of_ble_eq_true rfl) (FC.use (m_night1 (d + 1) (sbu s) (wF w) (wG w) (wH w) 0 rs (nI (wA w)) q n (wS w) h99) rfl (L2 := [(38, .inr (7, [.ref 39, .ref 40, .int (sbu s), .int (nI q), .ref 41, .int (nI n), .ref 42, .int (wF w), .int (wG w), .int (wH w), .int 0, .int rs, .int (nI (wA w)), .ref 43, .ref 44, .ref 45, .ref 46, .ref 47, .ref 48, .ref 49])), (39, .inl (false, 22, (bkF s))), (40, .inl (false, 22, (bkF (wS w)))), (42, .inl (false, 60, f))]) rfl) (Nat.le_of_ble_eq_true rfl) (fun _ _ hq9 => E_fgo ?_ hq9)
          show E _ _ 40 [.ref 38, .int (nI p), l2, l3] [.int (rsn (wS w) 5 0 0), .ref 38] (hov hp [(38, .inr (7, [.ref 39, .ref 40, .int (sbu s), .int (nI q), .ref 41, .int (nI n), .ref 42, .int (wF w), .int (wG w), .int (wH w), .int 0, .int rs, .int (nI (wA w)), .ref 43, .ref 44, .ref 45, .ref 46, .ref 47, .ref 48, .ref 49])), (39, .inl (false, 22, (bkF s))), (40, .inl (false, 22, (bkF (wS w)))), (42, .inl (false, 60, f))]) _
          refine E_puti (fs2 := [.ref 39, .ref 40, .int (sbu s), .int (nI q), .ref 41, .int (nI n), .ref 42, .int (wF w), .int (wG w), .int (wH w), .int 0, .int (rsn (wS w) 5 0 0), .int (nI (wA w)), .ref 43, .ref 44, .ref 45, .ref 46, .ref 47, .ref 48, .ref 49]) (L2 := [(38, .inr (7, [.ref 39, .ref 40, .int (sbu s), .int (nI q), .ref 41, .int (nI n), .ref 42, .int (wF w), .int (wG w), .int (wH w), .int 0, .int (rsn (wS w) 5 0 0), .int (nI (wA w)), .ref 43, .ref 44, .ref 45, .ref 46, .ref 47, .ref 48, .ref 49])), (39, .inl (false, 22, (bkF s))), (40, .inl (false, 22, (bkF (wS w)))), (42, .inl (false, 60, f))]) dX7_goWeeks_40 fX7_102 fpX7_11 (by decide) rfl (Nat.le_of_ble_eq_true rfl) rfl rfl ?_
          refine E_iinc (y := nI (p + 1)) (l2 := [.ref 38, .int (nI (p + 1)), l2, l3]) dX7_goWeeks_43 rfl (nI_1 _) (by decide) rfl ?_
          refine E_goto (tgt := 142) dX7_goWeeks_46 (by decide) ?_
          refine E_aload_n dX7_goWeeks_142 rfl ?_
          refine E_get dX7_goWeeks_143 fX7_102 (by decide) rfl rfl ?_
          refine E_if_le (tgt := 154) dX7_goWeeks_146 (by decide) (fun c => absurd c (rsn_pos hr)) (fun _ => ?_)
          refine E_aload_n dX7_goWeeks_149 rfl ?_
          refine E_get dX7_goWeeks_150 fX7_96 (by decide) rfl rfl ?_
          exact E_iret (st := []) dX7_goWeeks_153 rfl rfl ⟨_, rfl, _, _, by rw [← he, wk_n1 h46 hr], by rw [← he, wk_n1 h46 hr, stA, if_neg hr], fun _ => by rw [← he, wk_n1 h46 hr]⟩
      · have hl : letB (f p) = true := by
          simp only [okS, cond_false, Bool.or_eq_true, decide_eq_true_eq] at hok2
          rcases hok2 with h | h
          · exact h
          · exact absurd h h46
        have hh := letB_h hl
        rw [flt_ok hok2, hl] at hfl
        cases k with
        | zero => exact absurd hfl (nI_m6 (by omega))
        | succ k =>
          have hok3 : okS true (f (p + 1)) = true := by
            cases h : okS true (f (p + 1)) with
            | true => rfl
            | false => rw [flt_no h] at hfl; exact absurd hfl (nI_m6 (by omega))
          have hl2 : letB (f (p + 1)) = false := deed_let hok3
          rw [flt_ok hok3, hl2] at hfl
          have hd : celB (f (p + 1)) = true ∨ (f (p + 1) = 43 ∨ (f (p + 1) = 45 ∨ (f (p + 1) = 42 ∨ f (p + 1) = 94))) := by simpa [okS, deedB] using hok3
          rcases hd with hd | hd | hd | hd | hd
          · have hc97 := tI97.mp hd
            have n42 : ∀ q : Int32, (q.toInt < 97 ∨ 121 < q.toInt) → ¬ f (p + 1) = q := fun q hq h => by rw [h] at hc97; omega
            have hkd : kdN (f (p + 1)) = 0 := by simp only [kdN]; rw [if_neg (n42 43 (by decide)), if_neg (n42 45 (by decide)), if_neg (n42 42 (by decide)), if_neg (n42 94 (by decide))]
            have hc0 : (0 : Nat) = 0 → Bd 25 (f (p + 1) - 97) := fun _ => celB_bd hd
            by_cases hr : rsn (wS w) 0 (hN (f p)) (f (p + 1) - 97) = 0
            · refine E_iload_n dX7_goWeeks_11 rfl ?_
              refine E_aload_n dX7_goWeeks_12 rfl ?_
              refine E_get dX7_goWeeks_13 fX7_60 (by decide) rfl rfl ?_
              refine E_icmp_ge (tgt := 212) dX7_goWeeks_16 (by decide) (fun c => absurd c (nI_ge (by omega) (by omega))) (fun _ => ?_)
              refine E_aload_n dX7_goWeeks_19 rfl ?_
              refine E_iconst (v := 0) dX7_goWeeks_20 (by decide) ?_
              refine E_puti (fs2 := [.ref 39, .ref 40, .int (sbu s), .int (nI q), .ref 41, .int (nI n), .ref 42, .int (wF w), .int (wG w), .int (wH w), .int 0, .int rs, .int (nI (wA w)), .ref 43, .ref 44, .ref 45, .ref 46, .ref 47, .ref 48, .ref 49]) (L2 := [(38, .inr (7, [.ref 39, .ref 40, .int (sbu s), .int (nI q), .ref 41, .int (nI n), .ref 42, .int (wF w), .int (wG w), .int (wH w), .int 0, .int rs, .int (nI (wA w)), .ref 43, .ref 44, .ref 45, .ref 46, .ref 47, .ref 48, .ref 49])), (39, .inl (false, 22, (bkF s))), (40, .inl (false, 22, (bkF (wS w)))), (42, .inl (false, 60, f))]) dX7_goWeeks_21 fX7_90 fpX7_10 (by decide) rfl (Nat.le_of_ble_eq_true rfl) rfl rfl ?_
              refine E_aload_n dX7_goWeeks_24 rfl ?_
              refine E_get dX7_goWeeks_25 fX7_23 (by decide) rfl rfl ?_
              refine E_iload_n dX7_goWeeks_28 rfl ?_
              refine E_ialdN (j := p) dX7_goWeeks_29 (by decide) rfl (by omega) (by decide) ?_
              refine E_bipush (v := 46) dX7_goWeeks_30 (by decide) ?_
              refine E_icmp_ne (tgt := 49) dX7_goWeeks_32 (by decide) (fun _ => ?_) (fun c => absurd c h46)
              refine E_aload_n dX7_goWeeks_49 rfl ?_
              refine E_get dX7_goWeeks_50 fX7_23 (by decide) rfl rfl ?_
              refine E_iload_n dX7_goWeeks_53 rfl ?_
              refine E_ialdN (j := p) dX7_goWeeks_54 (by decide) rfl (by omega) (by decide) ?_
              refine E_bipush (v := 65) dX7_goWeeks_55 (by decide) ?_
              refine E_isub dX7_goWeeks_57 ?_
              refine E_eqi (y := nI (hN (f p))) hh.2.1 ?_
              refine E_istore_n (l2 := [.ref 38, .int (nI p), .int (nI (hN (f p))), l3]) dX7_goWeeks_58 rfl (by decide) rfl ?_
              refine E_aload_n dX7_goWeeks_59 rfl ?_
              refine E_get dX7_goWeeks_60 fX7_23 (by decide) rfl rfl ?_
              refine E_iload_n dX7_goWeeks_63 rfl ?_
              refine E_iconst (v := 1) dX7_goWeeks_64 (by decide) ?_
              refine E_iadd dX7_goWeeks_65 ?_
              refine E_eqi (y := nI (p + 1)) (nI_1 _) ?_
              refine E_ialdN (j := p + 1) dX7_goWeeks_66 (by decide) rfl (by omega) (by decide) ?_
              refine E_istore_n (l2 := [.ref 38, .int (nI p), .int (nI (hN (f p))), .int (f (p + 1))]) dX7_goWeeks_67 rfl (by decide) rfl ?_
              refine E_aload_n dX7_goWeeks_68 rfl ?_
              refine E_iload_n dX7_goWeeks_69 rfl ?_
              refine E_bipush (v := 43) dX7_goWeeks_70 (by decide) ?_
              refine E_icmp_ne (tgt := 84) dX7_goWeeks_72 (by decide) (fun _ => ?_) (fun c => absurd c (n42 43 (by decide)))
              refine E_iload_n dX7_goWeeks_84 rfl ?_
              refine E_bipush (v := 45) dX7_goWeeks_85 (by decide) ?_
              refine E_icmp_ne (tgt := 99) dX7_goWeeks_87 (by decide) (fun _ => ?_) (fun c => absurd c (n42 45 (by decide)))
              refine E_iload_n dX7_goWeeks_99 rfl ?_
              refine E_bipush (v := 42) dX7_goWeeks_100 (by decide) ?_
              refine E_icmp_ne (tgt := 113) dX7_goWeeks_102 (by decide) (fun _ => ?_) (fun c => absurd c (n42 42 (by decide)))
              refine E_iload_n dX7_goWeeks_113 rfl ?_
              refine E_bipush (v := 94) dX7_goWeeks_114 (by decide) ?_
              refine E_icmp_ne (tgt := 127) dX7_goWeeks_116 (by decide) (fun _ => ?_) (fun c => absurd c (n42 94 (by decide)))
              refine E_aload_n dX7_goWeeks_127 rfl ?_
              refine E_iload_n dX7_goWeeks_128 rfl ?_
              refine E_iload_n dX7_goWeeks_129 rfl ?_
              refine E_bipush (v := 97) dX7_goWeeks_130 (by decide) ?_
              refine E_isub dX7_goWeeks_132 ?_
              refine E_callV (As := [.int (nI (hN (f p))), .int ((f (p + 1)) - 97)]) (l' := [.ref 38, .int (nI (hN (f p))), .int ((f (p + 1)) - 97), .null]) (st := [.ref 38]) dX7_goWeeks_133 kX7_114 iX7_stack vX7_stack (by decide) rfl rfl MX7_stack rfl rfl (Nat.le_of_ble_eq_true rfl) (FC.use (m_stack (d + 4) (sbu s) (wF w) (wG w) (wH w) 0 rs (nI (wA w)) q n (wS w) (hN (f p)) hh.1 (f (p + 1) - 97)) rfl (L2 := [(38, .inr (7, [.ref 39, .ref 40, .int (sbu s), .int (nI q), .ref 41, .int (nI n), .ref 42, .int (wF w), .int (wG w), .int (wH w), .int 0, .int rs, .int (nI (wA w)), .ref 43, .ref 44, .ref 45, .ref 46, .ref 47, .ref 48, .ref 49])), (39, .inl (false, 22, (bkF s))), (40, .inl (false, 22, (bkF (nxS (wS w) 0 (hN (f p)) (f (p + 1) - 97))))), (42, .inl (false, 60, f))]) rfl) (Nat.le_of_ble_eq_true rfl) (fun _ _ hq9 => E_fgo ?_ hq9)
              show E _ _ 136 [.ref 38, .int (nI p), .int (nI (hN (f p))), .int (f (p + 1))] [.int (rsn (wS w) 0 (hN (f p)) (f (p + 1) - 97)), .ref 38] (hov hp [(38, .inr (7, [.ref 39, .ref 40, .int (sbu s), .int (nI q), .ref 41, .int (nI n), .ref 42, .int (wF w), .int (wG w), .int (wH w), .int 0, .int rs, .int (nI (wA w)), .ref 43, .ref 44, .ref 45, .ref 46, .ref 47, .ref 48, .ref 49])), (39, .inl (false, 22, (bkF s))), (40, .inl (false, 22, (bkF (nxS (wS w) 0 (hN (f p)) (f (p + 1) - 97))))), (42, .inl (false, 60, f))]) _
              refine E_eqi (y := 0) hr ?_
              rw [show nxS (wS w) 0 (hN (f p)) (f (p + 1) - 97) = prS (wS w) 0 (hN (f p)) (f (p + 1) - 97) from nxS_0 hr]
              refine E_puti (fs2 := [.ref 39, .ref 40, .int (sbu s), .int (nI q), .ref 41, .int (nI n), .ref 42, .int (wF w), .int (wG w), .int (wH w), .int 0, .int 0, .int (nI (wA w)), .ref 43, .ref 44, .ref 45, .ref 46, .ref 47, .ref 48, .ref 49]) (L2 := [(38, .inr (7, [.ref 39, .ref 40, .int (sbu s), .int (nI q), .ref 41, .int (nI n), .ref 42, .int (wF w), .int (wG w), .int (wH w), .int 0, .int 0, .int (nI (wA w)), .ref 43, .ref 44, .ref 45, .ref 46, .ref 47, .ref 48, .ref 49])), (39, .inl (false, 22, (bkF s))), (40, .inl (false, 22, (bkF (prS (wS w) 0 (hN (f p)) (f (p + 1) - 97))))), (42, .inl (false, 60, f))]) dX7_goWeeks_136 fX7_102 fpX7_11 (by decide) rfl (Nat.le_of_ble_eq_true rfl) rfl rfl ?_
              refine E_iinc (y := nI (p + 2)) (l2 := [.ref 38, .int (nI (p + 2)), .int (nI (hN (f p))), .int (f (p + 1))]) dX7_goWeeks_139 rfl (nI_add _ 2) (by decide) rfl ?_
              refine E_aload_n dX7_goWeeks_142 rfl ?_
              refine E_get dX7_goWeeks_143 fX7_102 (by decide) rfl rfl ?_
              refine E_if_le (tgt := 154) dX7_goWeeks_146 (by decide) (fun _ => ?_) (fun c => by first | exact absurd c (by decide) | exact absurd (by decide) c)
              refine E_iconst (v := 0) dX7_goWeeks_154 (by decide) ?_
              refine E_istore_n (l2 := [.ref 38, .int (nI (p + 2)), .int 0, .int (f (p + 1))]) dX7_goWeeks_155 rfl (by decide) rfl ?_
              have K199 : ∀ l2 : Value, E YX7_goWeeks (d + 5) 199 [.ref 38, .int (nI (p + 2)), l2, .int (f (p + 1))] [] (hov hp [(38, .inr (7, [.ref 39, .ref 40, .int (sbu s), .int (nI q), .ref 41, .int (nI n), .ref 42, .int (wF w), .int (ntG (nI (wA w)) 0 (wG w) (wH w)), .int (ntH (nI (wA w)) 0 (wG w) (wH w)), .int 0, .int 0, .int (nI (wA w)), .ref 43, .ref 44, .ref 45, .ref 46, .ref 47, .ref 48, .ref 49])), (39, .inl (false, 22, (bkF s))), (40, .inl (false, 22, (bkF (prS (wS w) 0 (hN (f p)) (f (p + 1) - 97))))), (42, .inl (false, 60, f))]) (fun v h' => ∃ M, h' = hov hp M ∧ (fun v M => ∃ fr' rs' : Int32, M = [(38, .inr (7, [.ref 39, .ref 40, .int (sbu s), .int (nI q), .ref 41, .int (nI n), .ref 42, .int (wF ((wk f n 0 (wk0 s)).1)), .int (wG ((wk f n 0 (wk0 s)).1)), .int (wH ((wk f n 0 (wk0 s)).1)), .int fr', .int rs', .int (nI (wA ((wk f n 0 (wk0 s)).1))), .ref 43, .ref 44, .ref 45, .ref 46, .ref 47, .ref 48, .ref 49])), (39, .inl (false, 22, (bkF s))), (40, .inl (false, 22, (bkF (wS (wk f n 0 (wk0 s)).1)))), (42, .inl (false, 60, f))] ∧ v = some (.int (stA (wk f n 0 (wk0 s)))) ∧ (¬ (wk f n 0 (wk0 s)).2 = 0 → rs' = (wk f n 0 (wk0 s)).2)) v M) := by
                intro l2
                refine E_aload_n dX7_goWeeks_199 rfl ?_
                refine E_dup dX7_goWeeks_200 rfl ?_
                refine E_get dX7_goWeeks_201 fX7_96 (by decide) rfl rfl ?_
                refine E_iconst (v := 1) dX7_goWeeks_204 (by decide) ?_
                refine E_iadd dX7_goWeeks_205 ?_
                refine E_eqi (y := nI (wA w + 1)) (nI_1 _) ?_
                refine E_puti (fs2 := [.ref 39, .ref 40, .int (sbu s), .int (nI q), .ref 41, .int (nI n), .ref 42, .int (wF w), .int (ntG (nI (wA w)) 0 (wG w) (wH w)), .int (ntH (nI (wA w)) 0 (wG w) (wH w)), .int 0, .int 0, .int (nI (wA w + 1)), .ref 43, .ref 44, .ref 45, .ref 46, .ref 47, .ref 48, .ref 49]) (L2 := [(38, .inr (7, [.ref 39, .ref 40, .int (sbu s), .int (nI q), .ref 41, .int (nI n), .ref 42, .int (wF w), .int (ntG (nI (wA w)) 0 (wG w) (wH w)), .int (ntH (nI (wA w)) 0 (wG w) (wH w)), .int 0, .int 0, .int (nI (wA w + 1)), .ref 43, .ref 44, .ref 45, .ref 46, .ref 47, .ref 48, .ref 49])), (39, .inl (false, 22, (bkF s))), (40, .inl (false, 22, (bkF (prS (wS w) 0 (hN (f p)) (f (p + 1) - 97))))), (42, .inl (false, 60, f))]) dX7_goWeeks_206 fX7_96 fpX7_12 (by decide) rfl (Nat.le_of_ble_eq_true rfl) rfl rfl ?_
                refine E_goto (tgt := 11) dX7_goWeeks_209 (by decide) ?_
                have e9 := ih _ (by omega) (p + 2) (wkn w 0 (hN (f p)) (f (p + 1) - 97)) l2 (.int (f (p + 1))) 0 0 (by omega) hfl (by rw [← he, wk_a0 h46 hkd rfl rfl hr]) (by rw [wkn_S]; exact prS_ok hok (by first | omega | exact hh.1) (by decide) (by first | exact hc0 | (intro h; exact absurd h (by decide))) hr) (by rw [wkn_S, prS_bu]; exact hbu) (by rw [wkn_G]; exact ntG_gok (by omega) hgk) (by rw [wkn_A]; omega)
                simp only [wkn_S, wkn_A, wkn_F, wkn_G, wkn_H] at e9
                rw [show prF (wS w) 0 = 0 from rfl, bc0, add0I] at e9
                exact e9
              have LF : ∀ j, j ≤ 6 → E YX7_goWeeks (d + 5) 156 [.ref 38, .int (nI (p + 2)), .int (nI j), .int (f (p + 1))] [] (hov hp [(38, .inr (7, [.ref 39, .ref 40, .int (sbu s), .int (nI q), .ref 41, .int (nI n), .ref 42, .int (wF w), .int ((nt (nI (wA w)) 0 (wG w) (wH w) j).1), .int ((nt (nI (wA w)) 0 (wG w) (wH w) j).2), .int 0, .int 0, .int (nI (wA w)), .ref 43, .ref 44, .ref 45, .ref 46, .ref 47, .ref 48, .ref 49])), (39, .inl (false, 22, (bkF s))), (40, .inl (false, 22, (bkF (prS (wS w) 0 (hN (f p)) (f (p + 1) - 97))))), (42, .inl (false, 60, f))]) (fun v h' => ∃ M, h' = hov hp M ∧ (fun v M => ∃ fr' rs' : Int32, M = [(38, .inr (7, [.ref 39, .ref 40, .int (sbu s), .int (nI q), .ref 41, .int (nI n), .ref 42, .int (wF ((wk f n 0 (wk0 s)).1)), .int (wG ((wk f n 0 (wk0 s)).1)), .int (wH ((wk f n 0 (wk0 s)).1)), .int fr', .int rs', .int (nI (wA ((wk f n 0 (wk0 s)).1))), .ref 43, .ref 44, .ref 45, .ref 46, .ref 47, .ref 48, .ref 49])), (39, .inl (false, 22, (bkF s))), (40, .inl (false, 22, (bkF (wS (wk f n 0 (wk0 s)).1)))), (42, .inl (false, 60, f))] ∧ v = some (.int (stA (wk f n 0 (wk0 s)))) ∧ (¬ (wk f n 0 (wk0 s)).2 = 0 → rs' = (wk f n 0 (wk0 s)).2)) v M) := by
                refine down 6 ?_ ?_
                · refine E_iload_n dX7_goWeeks_156 rfl ?_
                  refine E_bipush (v := 6) dX7_goWeeks_157 (by decide) ?_
                  refine E_icmp_ge (tgt := 199) dX7_goWeeks_159 (by decide) (fun _ => ?_) (fun c => absurd (by decide) c)
                  exact K199 _
                · intro j hj ihj
                  have hgj := nt_gok (a := wA w) (x := 0) (h := wH w) (by omega) hgk j
                  refine E_iload_n dX7_goWeeks_156 rfl ?_
                  refine E_bipush (v := 6) dX7_goWeeks_157 (by decide) ?_
                  refine E_icmp_ge (tgt := 199) dX7_goWeeks_159 (by decide) (fun c => absurd c (cI_nle (n := 6) rfl hj (by decide))) (fun _ => ?_)
                  refine E_aload_n dX7_goWeeks_162 rfl ?_
                  refine E_get dX7_goWeeks_163 fX7_70 (by decide) rfl rfl ?_
                  refine E_if_ge (tgt := 199) dX7_goWeeks_166 (by decide) (fun c166 => ?_) (fun c166 => ?_)
                  · have k166 := ntG_6 (Nat.le_of_lt hj) (hgj.pos c166)
                    have e9 := K199 (.int (nI j))
                    rw [k166.1, k166.2] at e9
                    exact e9
                  · have k166 := hgj.neg c166
                    refine E_aload_n dX7_goWeeks_169 rfl ?_
                    refine E_get dX7_goWeeks_170 fX7_90 (by decide) rfl rfl ?_
                    refine E_iload_n dX7_goWeeks_173 rfl ?_
                    refine E_callS (As := [.int 0, .int (nI j)]) (l' := [.int 0, .int (nI j)]) (st := []) dX7_goWeeks_174 kX7_80 sX7_has MX7_has rfl rfl (Nat.le_of_ble_eq_true rfl) (FC.use (c_has (d + 4) _ _) rfl (L2 := [(38, .inr (7, [.ref 39, .ref 40, .int (sbu s), .int (nI q), .ref 41, .int (nI n), .ref 42, .int (wF w), .int ((nt (nI (wA w)) 0 (wG w) (wH w) j).1), .int ((nt (nI (wA w)) 0 (wG w) (wH w) j).2), .int 0, .int 0, .int (nI (wA w)), .ref 43, .ref 44, .ref 45, .ref 46, .ref 47, .ref 48, .ref 49])), (39, .inl (false, 22, (bkF s))), (40, .inl (false, 22, (bkF (prS (wS w) 0 (hN (f p)) (f (p + 1) - 97))))), (42, .inl (false, 60, f))]) rfl) (Nat.le_of_ble_eq_true rfl) (fun _ _ hq9 => E_fgo ?_ hq9)
                    show E _ _ 177 [.ref 38, .int (nI (p + 2)), .int (nI j), .int (f (p + 1))] [.int (b2i (hbt 0 (nI j)))] (hov hp [(38, .inr (7, [.ref 39, .ref 40, .int (sbu s), .int (nI q), .ref 41, .int (nI n), .ref 42, .int (wF w), .int ((nt (nI (wA w)) 0 (wG w) (wH w) j).1), .int ((nt (nI (wA w)) 0 (wG w) (wH w) j).2), .int 0, .int 0, .int (nI (wA w)), .ref 43, .ref 44, .ref 45, .ref 46, .ref 47, .ref 48, .ref 49])), (39, .inl (false, 22, (bkF s))), (40, .inl (false, 22, (bkF (prS (wS w) 0 (hN (f p)) (f (p + 1) - 97))))), (42, .inl (false, 60, f))]) _
                    refine E_if_eq (tgt := 193) dX7_goWeeks_177 (by decide) (fun c177 => ?_) (fun c177 => ?_)
                    · have c177 := b2i_e0 c177
                      refine E_iinc (y := nI (j + 1)) (l2 := [.ref 38, .int (nI (p + 2)), .int (nI (j + 1)), .int (f (p + 1))]) dX7_goWeeks_193 rfl (nI_1 _) (by decide) rfl ?_
                      refine E_goto (tgt := 156) dX7_goWeeks_196 (by decide) ?_
                      have e9 := ihj
                      rw [nt_f c177] at e9
                      exact e9
                    · have c177 := b2i_n0 c177
                      refine E_aload_n dX7_goWeeks_180 rfl ?_
                      refine E_aload_n dX7_goWeeks_181 rfl ?_
                      refine E_get dX7_goWeeks_182 fX7_96 (by decide) rfl rfl ?_
                      refine E_puti (fs2 := [.ref 39, .ref 40, .int (sbu s), .int (nI q), .ref 41, .int (nI n), .ref 42, .int (wF w), .int (nI (wA w)), .int ((nt (nI (wA w)) 0 (wG w) (wH w) j).2), .int 0, .int 0, .int (nI (wA w)), .ref 43, .ref 44, .ref 45, .ref 46, .ref 47, .ref 48, .ref 49]) (L2 := [(38, .inr (7, [.ref 39, .ref 40, .int (sbu s), .int (nI q), .ref 41, .int (nI n), .ref 42, .int (wF w), .int (nI (wA w)), .int ((nt (nI (wA w)) 0 (wG w) (wH w) j).2), .int 0, .int 0, .int (nI (wA w)), .ref 43, .ref 44, .ref 45, .ref 46, .ref 47, .ref 48, .ref 49])), (39, .inl (false, 22, (bkF s))), (40, .inl (false, 22, (bkF (prS (wS w) 0 (hN (f p)) (f (p + 1) - 97))))), (42, .inl (false, 60, f))]) dX7_goWeeks_185 fX7_70 fpX7_8 (by decide) rfl (Nat.le_of_ble_eq_true rfl) rfl rfl ?_
                      refine E_aload_n dX7_goWeeks_188 rfl ?_
                      refine E_iload_n dX7_goWeeks_189 rfl ?_
                      refine E_puti (fs2 := [.ref 39, .ref 40, .int (sbu s), .int (nI q), .ref 41, .int (nI n), .ref 42, .int (wF w), .int (nI (wA w)), .int (nI j), .int 0, .int 0, .int (nI (wA w)), .ref 43, .ref 44, .ref 45, .ref 46, .ref 47, .ref 48, .ref 49]) (L2 := [(38, .inr (7, [.ref 39, .ref 40, .int (sbu s), .int (nI q), .ref 41, .int (nI n), .ref 42, .int (wF w), .int (nI (wA w)), .int (nI j), .int 0, .int 0, .int (nI (wA w)), .ref 43, .ref 44, .ref 45, .ref 46, .ref 47, .ref 48, .ref 49])), (39, .inl (false, 22, (bkF s))), (40, .inl (false, 22, (bkF (prS (wS w) 0 (hN (f p)) (f (p + 1) - 97))))), (42, .inl (false, 60, f))]) dX7_goWeeks_190 fX7_73 fpX7_9 (by decide) rfl (Nat.le_of_ble_eq_true rfl) rfl rfl ?_
                      refine E_iinc (y := nI (j + 1)) (l2 := [.ref 38, .int (nI (p + 2)), .int (nI (j + 1)), .int (f (p + 1))]) dX7_goWeeks_193 rfl (nI_1 _) (by decide) rfl ?_
                      refine E_goto (tgt := 156) dX7_goWeeks_196 (by decide) ?_
                      have e9 := ihj
                      rw [nt_t k166 c177] at e9
                      exact e9
              exact LF 0 (by decide)
            · refine E_iload_n dX7_goWeeks_11 rfl ?_
              refine E_aload_n dX7_goWeeks_12 rfl ?_
              refine E_get dX7_goWeeks_13 fX7_60 (by decide) rfl rfl ?_
              refine E_icmp_ge (tgt := 212) dX7_goWeeks_16 (by decide) (fun c => absurd c (nI_ge (by omega) (by omega))) (fun _ => ?_)
              refine E_aload_n dX7_goWeeks_19 rfl ?_
              refine E_iconst (v := 0) dX7_goWeeks_20 (by decide) ?_
              refine E_puti (fs2 := [.ref 39, .ref 40, .int (sbu s), .int (nI q), .ref 41, .int (nI n), .ref 42, .int (wF w), .int (wG w), .int (wH w), .int 0, .int rs, .int (nI (wA w)), .ref 43, .ref 44, .ref 45, .ref 46, .ref 47, .ref 48, .ref 49]) (L2 := [(38, .inr (7, [.ref 39, .ref 40, .int (sbu s), .int (nI q), .ref 41, .int (nI n), .ref 42, .int (wF w), .int (wG w), .int (wH w), .int 0, .int rs, .int (nI (wA w)), .ref 43, .ref 44, .ref 45, .ref 46, .ref 47, .ref 48, .ref 49])), (39, .inl (false, 22, (bkF s))), (40, .inl (false, 22, (bkF (wS w)))), (42, .inl (false, 60, f))]) dX7_goWeeks_21 fX7_90 fpX7_10 (by decide) rfl (Nat.le_of_ble_eq_true rfl) rfl rfl ?_
              refine E_aload_n dX7_goWeeks_24 rfl ?_
              refine E_get dX7_goWeeks_25 fX7_23 (by decide) rfl rfl ?_
              refine E_iload_n dX7_goWeeks_28 rfl ?_
              refine E_ialdN (j := p) dX7_goWeeks_29 (by decide) rfl (by omega) (by decide) ?_
              refine E_bipush (v := 46) dX7_goWeeks_30 (by decide) ?_
              refine E_icmp_ne (tgt := 49) dX7_goWeeks_32 (by decide) (fun _ => ?_) (fun c => absurd c h46)
              refine E_aload_n dX7_goWeeks_49 rfl ?_
              refine E_get dX7_goWeeks_50 fX7_23 (by decide) rfl rfl ?_
              refine E_iload_n dX7_goWeeks_53 rfl ?_
              refine E_ialdN (j := p) dX7_goWeeks_54 (by decide) rfl (by omega) (by decide) ?_
              refine E_bipush (v := 65) dX7_goWeeks_55 (by decide) ?_
              refine E_isub dX7_goWeeks_57 ?_
              refine E_eqi (y := nI (hN (f p))) hh.2.1 ?_
              refine E_istore_n (l2 := [.ref 38, .int (nI p), .int (nI (hN (f p))), l3]) dX7_goWeeks_58 rfl (by decide) rfl ?_
              refine E_aload_n dX7_goWeeks_59 rfl ?_
              refine E_get dX7_goWeeks_60 fX7_23 (by decide) rfl rfl ?_
              refine E_iload_n dX7_goWeeks_63 rfl ?_
              refine E_iconst (v := 1) dX7_goWeeks_64 (by decide) ?_
              refine E_iadd dX7_goWeeks_65 ?_
              refine E_eqi (y := nI (p + 1)) (nI_1 _) ?_
              refine E_ialdN (j := p + 1) dX7_goWeeks_66 (by decide) rfl (by omega) (by decide) ?_
              refine E_istore_n (l2 := [.ref 38, .int (nI p), .int (nI (hN (f p))), .int (f (p + 1))]) dX7_goWeeks_67 rfl (by decide) rfl ?_
              refine E_aload_n dX7_goWeeks_68 rfl ?_
              refine E_iload_n dX7_goWeeks_69 rfl ?_
              refine E_bipush (v := 43) dX7_goWeeks_70 (by decide) ?_
              refine E_icmp_ne (tgt := 84) dX7_goWeeks_72 (by decide) (fun _ => ?_) (fun c => absurd c (n42 43 (by decide)))
              refine E_iload_n dX7_goWeeks_84 rfl ?_
              refine E_bipush (v := 45) dX7_goWeeks_85 (by decide) ?_
              refine E_icmp_ne (tgt := 99) dX7_goWeeks_87 (by decide) (fun _ => ?_) (fun c => absurd c (n42 45 (by decide)))
              refine E_iload_n dX7_goWeeks_99 rfl ?_
              refine E_bipush (v := 42) dX7_goWeeks_100 (by decide) ?_
              refine E_icmp_ne (tgt := 113) dX7_goWeeks_102 (by decide) (fun _ => ?_) (fun c => absurd c (n42 42 (by decide)))
              refine E_iload_n dX7_goWeeks_113 rfl ?_
              refine E_bipush (v := 94) dX7_goWeeks_114 (by decide) ?_
              refine E_icmp_ne (tgt := 127) dX7_goWeeks_116 (by decide) (fun _ => ?_) (fun c => absurd c (n42 94 (by decide)))
              refine E_aload_n dX7_goWeeks_127 rfl ?_
              refine E_iload_n dX7_goWeeks_128 rfl ?_
              refine E_iload_n dX7_goWeeks_129 rfl ?_
              refine E_bipush (v := 97) dX7_goWeeks_130 (by decide) ?_
              refine E_isub dX7_goWeeks_132 ?_
              refine E_callV (As := [.int (nI (hN (f p))), .int ((f (p + 1)) - 97)]) (l' := [.ref 38, .int (nI (hN (f p))), .int ((f (p + 1)) - 97), .null]) (st := [.ref 38]) dX7_goWeeks_133 kX7_114 iX7_stack vX7_stack (by decide) rfl rfl MX7_stack rfl rfl (Nat.le_of_ble_eq_true rfl) (FC.use (m_stack (d + 4) (sbu s) (wF w) (wG w) (wH w) 0 rs (nI (wA w)) q n (wS w) (hN (f p)) hh.1 (f (p + 1) - 97)) rfl (L2 := [(38, .inr (7, [.ref 39, .ref 40, .int (sbu s), .int (nI q), .ref 41, .int (nI n), .ref 42, .int (wF w), .int (wG w), .int (wH w), .int 0, .int rs, .int (nI (wA w)), .ref 43, .ref 44, .ref 45, .ref 46, .ref 47, .ref 48, .ref 49])), (39, .inl (false, 22, (bkF s))), (40, .inl (false, 22, (bkF (nxS (wS w) 0 (hN (f p)) (f (p + 1) - 97))))), (42, .inl (false, 60, f))]) rfl) (Nat.le_of_ble_eq_true rfl) (fun _ _ hq9 => E_fgo ?_ hq9)
              show E _ _ 136 [.ref 38, .int (nI p), .int (nI (hN (f p))), .int (f (p + 1))] [.int (rsn (wS w) 0 (hN (f p)) (f (p + 1) - 97)), .ref 38] (hov hp [(38, .inr (7, [.ref 39, .ref 40, .int (sbu s), .int (nI q), .ref 41, .int (nI n), .ref 42, .int (wF w), .int (wG w), .int (wH w), .int 0, .int rs, .int (nI (wA w)), .ref 43, .ref 44, .ref 45, .ref 46, .ref 47, .ref 48, .ref 49])), (39, .inl (false, 22, (bkF s))), (40, .inl (false, 22, (bkF (nxS (wS w) 0 (hN (f p)) (f (p + 1) - 97))))), (42, .inl (false, 60, f))]) _
              refine E_eqi (y := rsn (wS w) 0 (hN (f p)) (f (p + 1) - 97)) rfl ?_
              rw [show nxS (wS w) 0 (hN (f p)) (f (p + 1) - 97) = wS w from nxS_1 hr]
              refine E_puti (fs2 := [.ref 39, .ref 40, .int (sbu s), .int (nI q), .ref 41, .int (nI n), .ref 42, .int (wF w), .int (wG w), .int (wH w), .int 0, .int (rsn (wS w) 0 (hN (f p)) (f (p + 1) - 97)), .int (nI (wA w)), .ref 43, .ref 44, .ref 45, .ref 46, .ref 47, .ref 48, .ref 49]) (L2 := [(38, .inr (7, [.ref 39, .ref 40, .int (sbu s), .int (nI q), .ref 41, .int (nI n), .ref 42, .int (wF w), .int (wG w), .int (wH w), .int 0, .int (rsn (wS w) 0 (hN (f p)) (f (p + 1) - 97)), .int (nI (wA w)), .ref 43, .ref 44, .ref 45, .ref 46, .ref 47, .ref 48, .ref 49])), (39, .inl (false, 22, (bkF s))), (40, .inl (false, 22, (bkF (wS w)))), (42, .inl (false, 60, f))]) dX7_goWeeks_136 fX7_102 fpX7_11 (by decide) rfl (Nat.le_of_ble_eq_true rfl) rfl rfl ?_
              refine E_iinc (y := nI (p + 2)) (l2 := [.ref 38, .int (nI (p + 2)), .int (nI (hN (f p))), .int (f (p + 1))]) dX7_goWeeks_139 rfl (nI_add _ 2) (by decide) rfl ?_
              refine E_aload_n dX7_goWeeks_142 rfl ?_
              refine E_get dX7_goWeeks_143 fX7_102 (by decide) rfl rfl ?_
              refine E_if_le (tgt := 154) dX7_goWeeks_146 (by decide) (fun c => absurd c (rsn_pos hr)) (fun _ => ?_)
              refine E_aload_n dX7_goWeeks_149 rfl ?_
              refine E_get dX7_goWeeks_150 fX7_96 (by decide) rfl rfl ?_
              exact E_iret (st := []) dX7_goWeeks_153 rfl rfl ⟨_, rfl, _, _, by rw [← he, wk_a1 h46 hkd rfl rfl hr], by rw [← he, wk_a1 h46 hkd rfl rfl hr, stA, if_neg hr], fun _ => by rw [← he, wk_a1 h46 hkd rfl rfl hr]⟩
          · by_cases hr : rsn (wS w) 1 (hN (f p)) (f (p + 1) - 97) = 0
            · refine E_iload_n dX7_goWeeks_11 rfl ?_
              refine E_aload_n dX7_goWeeks_12 rfl ?_
              refine E_get dX7_goWeeks_13 fX7_60 (by decide) rfl rfl ?_
              refine E_icmp_ge (tgt := 212) dX7_goWeeks_16 (by decide) (fun c => absurd c (nI_ge (by omega) (by omega))) (fun _ => ?_)
              refine E_aload_n dX7_goWeeks_19 rfl ?_
              refine E_iconst (v := 0) dX7_goWeeks_20 (by decide) ?_
              refine E_puti (fs2 := [.ref 39, .ref 40, .int (sbu s), .int (nI q), .ref 41, .int (nI n), .ref 42, .int (wF w), .int (wG w), .int (wH w), .int 0, .int rs, .int (nI (wA w)), .ref 43, .ref 44, .ref 45, .ref 46, .ref 47, .ref 48, .ref 49]) (L2 := [(38, .inr (7, [.ref 39, .ref 40, .int (sbu s), .int (nI q), .ref 41, .int (nI n), .ref 42, .int (wF w), .int (wG w), .int (wH w), .int 0, .int rs, .int (nI (wA w)), .ref 43, .ref 44, .ref 45, .ref 46, .ref 47, .ref 48, .ref 49])), (39, .inl (false, 22, (bkF s))), (40, .inl (false, 22, (bkF (wS w)))), (42, .inl (false, 60, f))]) dX7_goWeeks_21 fX7_90 fpX7_10 (by decide) rfl (Nat.le_of_ble_eq_true rfl) rfl rfl ?_
              refine E_aload_n dX7_goWeeks_24 rfl ?_
              refine E_get dX7_goWeeks_25 fX7_23 (by decide) rfl rfl ?_
              refine E_iload_n dX7_goWeeks_28 rfl ?_
              refine E_ialdN (j := p) dX7_goWeeks_29 (by decide) rfl (by omega) (by decide) ?_
              refine E_bipush (v := 46) dX7_goWeeks_30 (by decide) ?_
              refine E_icmp_ne (tgt := 49) dX7_goWeeks_32 (by decide) (fun _ => ?_) (fun c => absurd c h46)
              refine E_aload_n dX7_goWeeks_49 rfl ?_
              refine E_get dX7_goWeeks_50 fX7_23 (by decide) rfl rfl ?_
              refine E_iload_n dX7_goWeeks_53 rfl ?_
              refine E_ialdN (j := p) dX7_goWeeks_54 (by decide) rfl (by omega) (by decide) ?_
              refine E_bipush (v := 65) dX7_goWeeks_55 (by decide) ?_
              refine E_isub dX7_goWeeks_57 ?_
              refine E_eqi (y := nI (hN (f p))) hh.2.1 ?_
              refine E_istore_n (l2 := [.ref 38, .int (nI p), .int (nI (hN (f p))), l3]) dX7_goWeeks_58 rfl (by decide) rfl ?_
              refine E_aload_n dX7_goWeeks_59 rfl ?_
              refine E_get dX7_goWeeks_60 fX7_23 (by decide) rfl rfl ?_
              refine E_iload_n dX7_goWeeks_63 rfl ?_
              refine E_iconst (v := 1) dX7_goWeeks_64 (by decide) ?_
              refine E_iadd dX7_goWeeks_65 ?_
              refine E_eqi (y := nI (p + 1)) (nI_1 _) ?_
              refine E_ialdN (j := p + 1) dX7_goWeeks_66 (by decide) rfl (by omega) (by decide) ?_
              refine E_eqi (y := 43) hd ?_
              refine E_istore_n (l2 := [.ref 38, .int (nI p), .int (nI (hN (f p))), .int 43]) dX7_goWeeks_67 rfl (by decide) rfl ?_
              refine E_aload_n dX7_goWeeks_68 rfl ?_
              refine E_iload_n dX7_goWeeks_69 rfl ?_
              refine E_bipush (v := 43) dX7_goWeeks_70 (by decide) ?_
              refine E_icmp_ne (tgt := 84) dX7_goWeeks_72 (by decide) (fun c => by first | exact absurd c (by decide) | exact absurd (by decide) c) (fun _ => ?_)
              refine E_aload_n dX7_goWeeks_75 rfl ?_
              refine E_iload_n dX7_goWeeks_76 rfl ?_
              refine E_iconst (v := 1) dX7_goWeeks_77 (by decide) ?_
              refine E_callV (As := [.int (nI (hN (f p))), .int 1]) (l' := [.ref 38, .int (nI (hN (f p))), .int 1]) (st := [.ref 38]) dX7_goWeeks_78 kX7_105 iX7_turf vX7_turf (by decide) rfl rfl MX7_turf rfl rfl (Nat.le_of_ble_eq_true rfl) (FC.use (m_turf1 (d + 3) (sbu s) (wF w) (wG w) (wH w) 0 rs (nI (wA w)) q n (wS w) hok (hN (f p)) hh.1) rfl (L2 := [(38, .inr (7, [.ref 39, .ref 40, .int (sbu s), .int (nI q), .ref 41, .int (nI n), .ref 42, .int (wF w), .int (wG w), .int (wH w), .int 0, .int rs, .int (nI (wA w)), .ref 43, .ref 44, .ref 45, .ref 46, .ref 47, .ref 48, .ref 49])), (39, .inl (false, 22, (bkF s))), (40, .inl (false, 22, (bkF (nxS (wS w) 1 (hN (f p)) 0)))), (42, .inl (false, 60, f))]) rfl) (Nat.le_of_ble_eq_true rfl) (fun _ _ hq9 => E_fgo ?_ hq9)
              show E _ _ 81 [.ref 38, .int (nI p), .int (nI (hN (f p))), .int 43] [.int (rsn (wS w) 1 (hN (f p)) 0), .ref 38] (hov hp [(38, .inr (7, [.ref 39, .ref 40, .int (sbu s), .int (nI q), .ref 41, .int (nI n), .ref 42, .int (wF w), .int (wG w), .int (wH w), .int 0, .int rs, .int (nI (wA w)), .ref 43, .ref 44, .ref 45, .ref 46, .ref 47, .ref 48, .ref 49])), (39, .inl (false, 22, (bkF s))), (40, .inl (false, 22, (bkF (nxS (wS w) 1 (hN (f p)) 0)))), (42, .inl (false, 60, f))]) _
              refine E_eqi (y := 0) hr ?_
              rw [show nxS (wS w) 1 (hN (f p)) 0 = prS (wS w) 1 (hN (f p)) (f (p + 1) - 97) from nxS_0 hr]
              refine E_goto (tgt := 136) dX7_goWeeks_81 (by decide) ?_
              refine E_puti (fs2 := [.ref 39, .ref 40, .int (sbu s), .int (nI q), .ref 41, .int (nI n), .ref 42, .int (wF w), .int (wG w), .int (wH w), .int 0, .int 0, .int (nI (wA w)), .ref 43, .ref 44, .ref 45, .ref 46, .ref 47, .ref 48, .ref 49]) (L2 := [(38, .inr (7, [.ref 39, .ref 40, .int (sbu s), .int (nI q), .ref 41, .int (nI n), .ref 42, .int (wF w), .int (wG w), .int (wH w), .int 0, .int 0, .int (nI (wA w)), .ref 43, .ref 44, .ref 45, .ref 46, .ref 47, .ref 48, .ref 49])), (39, .inl (false, 22, (bkF s))), (40, .inl (false, 22, (bkF (prS (wS w) 1 (hN (f p)) (f (p + 1) - 97))))), (42, .inl (false, 60, f))]) dX7_goWeeks_136 fX7_102 fpX7_11 (by decide) rfl (Nat.le_of_ble_eq_true rfl) rfl rfl ?_
              refine E_iinc (y := nI (p + 2)) (l2 := [.ref 38, .int (nI (p + 2)), .int (nI (hN (f p))), .int 43]) dX7_goWeeks_139 rfl (nI_add _ 2) (by decide) rfl ?_
              refine E_aload_n dX7_goWeeks_142 rfl ?_
              refine E_get dX7_goWeeks_143 fX7_102 (by decide) rfl rfl ?_
              refine E_if_le (tgt := 154) dX7_goWeeks_146 (by decide) (fun _ => ?_) (fun c => by first | exact absurd c (by decide) | exact absurd (by decide) c)
              refine E_iconst (v := 0) dX7_goWeeks_154 (by decide) ?_
              refine E_istore_n (l2 := [.ref 38, .int (nI (p + 2)), .int 0, .int 43]) dX7_goWeeks_155 rfl (by decide) rfl ?_
              have K199 : ∀ l2 : Value, E YX7_goWeeks (d + 5) 199 [.ref 38, .int (nI (p + 2)), l2, .int 43] [] (hov hp [(38, .inr (7, [.ref 39, .ref 40, .int (sbu s), .int (nI q), .ref 41, .int (nI n), .ref 42, .int (wF w), .int (ntG (nI (wA w)) 0 (wG w) (wH w)), .int (ntH (nI (wA w)) 0 (wG w) (wH w)), .int 0, .int 0, .int (nI (wA w)), .ref 43, .ref 44, .ref 45, .ref 46, .ref 47, .ref 48, .ref 49])), (39, .inl (false, 22, (bkF s))), (40, .inl (false, 22, (bkF (prS (wS w) 1 (hN (f p)) (f (p + 1) - 97))))), (42, .inl (false, 60, f))]) (fun v h' => ∃ M, h' = hov hp M ∧ (fun v M => ∃ fr' rs' : Int32, M = [(38, .inr (7, [.ref 39, .ref 40, .int (sbu s), .int (nI q), .ref 41, .int (nI n), .ref 42, .int (wF ((wk f n 0 (wk0 s)).1)), .int (wG ((wk f n 0 (wk0 s)).1)), .int (wH ((wk f n 0 (wk0 s)).1)), .int fr', .int rs', .int (nI (wA ((wk f n 0 (wk0 s)).1))), .ref 43, .ref 44, .ref 45, .ref 46, .ref 47, .ref 48, .ref 49])), (39, .inl (false, 22, (bkF s))), (40, .inl (false, 22, (bkF (wS (wk f n 0 (wk0 s)).1)))), (42, .inl (false, 60, f))] ∧ v = some (.int (stA (wk f n 0 (wk0 s)))) ∧ (¬ (wk f n 0 (wk0 s)).2 = 0 → rs' = (wk f n 0 (wk0 s)).2)) v M) := by
                intro l2
                refine E_aload_n dX7_goWeeks_199 rfl ?_
                refine E_dup dX7_goWeeks_200 rfl ?_
                refine E_get dX7_goWeeks_201 fX7_96 (by decide) rfl rfl ?_
                refine E_iconst (v := 1) dX7_goWeeks_204 (by decide) ?_
                refine E_iadd dX7_goWeeks_205 ?_
                refine E_eqi (y := nI (wA w + 1)) (nI_1 _) ?_
                refine E_puti (fs2 := [.ref 39, .ref 40, .int (sbu s), .int (nI q), .ref 41, .int (nI n), .ref 42, .int (wF w), .int (ntG (nI (wA w)) 0 (wG w) (wH w)), .int (ntH (nI (wA w)) 0 (wG w) (wH w)), .int 0, .int 0, .int (nI (wA w + 1)), .ref 43, .ref 44, .ref 45, .ref 46, .ref 47, .ref 48, .ref 49]) (L2 := [(38, .inr (7, [.ref 39, .ref 40, .int (sbu s), .int (nI q), .ref 41, .int (nI n), .ref 42, .int (wF w), .int (ntG (nI (wA w)) 0 (wG w) (wH w)), .int (ntH (nI (wA w)) 0 (wG w) (wH w)), .int 0, .int 0, .int (nI (wA w + 1)), .ref 43, .ref 44, .ref 45, .ref 46, .ref 47, .ref 48, .ref 49])), (39, .inl (false, 22, (bkF s))), (40, .inl (false, 22, (bkF (prS (wS w) 1 (hN (f p)) (f (p + 1) - 97))))), (42, .inl (false, 60, f))]) dX7_goWeeks_206 fX7_96 fpX7_12 (by decide) rfl (Nat.le_of_ble_eq_true rfl) rfl rfl ?_
                refine E_goto (tgt := 11) dX7_goWeeks_209 (by decide) ?_
                have e9 := ih _ (by omega) (p + 2) (wkn w 1 (hN (f p)) (f (p + 1) - 97)) l2 (.int 43) 0 0 (by omega) hfl (by rw [← he, wk_a0 h46 (by rw [hd]; decide) rfl rfl hr]) (by rw [wkn_S]; exact prS_ok hok (by first | omega | exact hh.1) (by decide) (by first | exact hc0 | (intro h; exact absurd h (by decide))) hr) (by rw [wkn_S, prS_bu]; exact hbu) (by rw [wkn_G]; exact ntG_gok (by omega) hgk) (by rw [wkn_A]; omega)
                simp only [wkn_S, wkn_A, wkn_F, wkn_G, wkn_H] at e9
                rw [show prF (wS w) 1 = 0 from rfl, bc0, add0I] at e9
                exact e9
              have LF : ∀ j, j ≤ 6 → E YX7_goWeeks (d + 5) 156 [.ref 38, .int (nI (p + 2)), .int (nI j), .int 43] [] (hov hp [(38, .inr (7, [.ref 39, .ref 40, .int (sbu s), .int (nI q), .ref 41, .int (nI n), .ref 42, .int (wF w), .int ((nt (nI (wA w)) 0 (wG w) (wH w) j).1), .int ((nt (nI (wA w)) 0 (wG w) (wH w) j).2), .int 0, .int 0, .int (nI (wA w)), .ref 43, .ref 44, .ref 45, .ref 46, .ref 47, .ref 48, .ref 49])), (39, .inl (false, 22, (bkF s))), (40, .inl (false, 22, (bkF (prS (wS w) 1 (hN (f p)) (f (p + 1) - 97))))), (42, .inl (false, 60, f))]) (fun v h' => ∃ M, h' = hov hp M ∧ (fun v M => ∃ fr' rs' : Int32, M = [(38, .inr (7, [.ref 39, .ref 40, .int (sbu s), .int (nI q), .ref 41, .int (nI n), .ref 42, .int (wF ((wk f n 0 (wk0 s)).1)), .int (wG ((wk f n 0 (wk0 s)).1)), .int (wH ((wk f n 0 (wk0 s)).1)), .int fr', .int rs', .int (nI (wA ((wk f n 0 (wk0 s)).1))), .ref 43, .ref 44, .ref 45, .ref 46, .ref 47, .ref 48, .ref 49])), (39, .inl (false, 22, (bkF s))), (40, .inl (false, 22, (bkF (wS (wk f n 0 (wk0 s)).1)))), (42, .inl (false, 60, f))] ∧ v = some (.int (stA (wk f n 0 (wk0 s)))) ∧ (¬ (wk f n 0 (wk0 s)).2 = 0 → rs' = (wk f n 0 (wk0 s)).2)) v M) := by
                refine down 6 ?_ ?_
                · refine E_iload_n dX7_goWeeks_156 rfl ?_
                  refine E_bipush (v := 6) dX7_goWeeks_157 (by decide) ?_
                  refine E_icmp_ge (tgt := 199) dX7_goWeeks_159 (by decide) (fun _ => ?_) (fun c => absurd (by decide) c)
                  exact K199 _
                · intro j hj ihj
                  have hgj := nt_gok (a := wA w) (x := 0) (h := wH w) (by omega) hgk j
                  refine E_iload_n dX7_goWeeks_156 rfl ?_
                  refine E_bipush (v := 6) dX7_goWeeks_157 (by decide) ?_
                  refine E_icmp_ge (tgt := 199) dX7_goWeeks_159 (by decide) (fun c => absurd c (cI_nle (n := 6) rfl hj (by decide))) (fun _ => ?_)
                  refine E_aload_n dX7_goWeeks_162 rfl ?_
                  refine E_get dX7_goWeeks_163 fX7_70 (by decide) rfl rfl ?_
                  refine E_if_ge (tgt := 199) dX7_goWeeks_166 (by decide) (fun c166 => ?_) (fun c166 => ?_)
                  · have k166 := ntG_6 (Nat.le_of_lt hj) (hgj.pos c166)
                    have e9 := K199 (.int (nI j))
                    rw [k166.1, k166.2] at e9
                    exact e9
                  · have k166 := hgj.neg c166
                    refine E_aload_n dX7_goWeeks_169 rfl ?_
                    refine E_get dX7_goWeeks_170 fX7_90 (by decide) rfl rfl ?_
                    refine E_iload_n dX7_goWeeks_173 rfl ?_
                    refine E_callS (As := [.int 0, .int (nI j)]) (l' := [.int 0, .int (nI j)]) (st := []) dX7_goWeeks_174 kX7_80 sX7_has MX7_has rfl rfl (Nat.le_of_ble_eq_true rfl) (FC.use (c_has (d + 4) _ _) rfl (L2 := [(38, .inr (7, [.ref 39, .ref 40, .int (sbu s), .int (nI q), .ref 41, .int (nI n), .ref 42, .int (wF w), .int ((nt (nI (wA w)) 0 (wG w) (wH w) j).1), .int ((nt (nI (wA w)) 0 (wG w) (wH w) j).2), .int 0, .int 0, .int (nI (wA w)), .ref 43, .ref 44, .ref 45, .ref 46, .ref 47, .ref 48, .ref 49])), (39, .inl (false, 22, (bkF s))), (40, .inl (false, 22, (bkF (prS (wS w) 1 (hN (f p)) (f (p + 1) - 97))))), (42, .inl (false, 60, f))]) rfl) (Nat.le_of_ble_eq_true rfl) (fun _ _ hq9 => E_fgo ?_ hq9)
                    show E _ _ 177 [.ref 38, .int (nI (p + 2)), .int (nI j), .int 43] [.int (b2i (hbt 0 (nI j)))] (hov hp [(38, .inr (7, [.ref 39, .ref 40, .int (sbu s), .int (nI q), .ref 41, .int (nI n), .ref 42, .int (wF w), .int ((nt (nI (wA w)) 0 (wG w) (wH w) j).1), .int ((nt (nI (wA w)) 0 (wG w) (wH w) j).2), .int 0, .int 0, .int (nI (wA w)), .ref 43, .ref 44, .ref 45, .ref 46, .ref 47, .ref 48, .ref 49])), (39, .inl (false, 22, (bkF s))), (40, .inl (false, 22, (bkF (prS (wS w) 1 (hN (f p)) (f (p + 1) - 97))))), (42, .inl (false, 60, f))]) _
                    refine E_if_eq (tgt := 193) dX7_goWeeks_177 (by decide) (fun c177 => ?_) (fun c177 => ?_)
                    · have c177 := b2i_e0 c177
                      refine E_iinc (y := nI (j + 1)) (l2 := [.ref 38, .int (nI (p + 2)), .int (nI (j + 1)), .int 43]) dX7_goWeeks_193 rfl (nI_1 _) (by decide) rfl ?_
                      refine E_goto (tgt := 156) dX7_goWeeks_196 (by decide) ?_
                      have e9 := ihj
                      rw [nt_f c177] at e9
                      exact e9
                    · have c177 := b2i_n0 c177
                      refine E_aload_n dX7_goWeeks_180 rfl ?_
                      refine E_aload_n dX7_goWeeks_181 rfl ?_
                      refine E_get dX7_goWeeks_182 fX7_96 (by decide) rfl rfl ?_
                      refine E_puti (fs2 := [.ref 39, .ref 40, .int (sbu s), .int (nI q), .ref 41, .int (nI n), .ref 42, .int (wF w), .int (nI (wA w)), .int ((nt (nI (wA w)) 0 (wG w) (wH w) j).2), .int 0, .int 0, .int (nI (wA w)), .ref 43, .ref 44, .ref 45, .ref 46, .ref 47, .ref 48, .ref 49]) (L2 := [(38, .inr (7, [.ref 39, .ref 40, .int (sbu s), .int (nI q), .ref 41, .int (nI n), .ref 42, .int (wF w), .int (nI (wA w)), .int ((nt (nI (wA w)) 0 (wG w) (wH w) j).2), .int 0, .int 0, .int (nI (wA w)), .ref 43, .ref 44, .ref 45, .ref 46, .ref 47, .ref 48, .ref 49])), (39, .inl (false, 22, (bkF s))), (40, .inl (false, 22, (bkF (prS (wS w) 1 (hN (f p)) (f (p + 1) - 97))))), (42, .inl (false, 60, f))]) dX7_goWeeks_185 fX7_70 fpX7_8 (by decide) rfl (Nat.le_of_ble_eq_true rfl) rfl rfl ?_
                      refine E_aload_n dX7_goWeeks_188 rfl ?_
                      refine E_iload_n dX7_goWeeks_189 rfl ?_
                      refine E_puti (fs2 := [.ref 39, .ref 40, .int (sbu s), .int (nI q), .ref 41, .int (nI n), .ref 42, .int (wF w), .int (nI (wA w)), .int (nI j), .int 0, .int 0, .int (nI (wA w)), .ref 43, .ref 44, .ref 45, .ref 46, .ref 47, .ref 48, .ref 49]) (L2 := [(38, .inr (7, [.ref 39, .ref 40, .int (sbu s), .int (nI q), .ref 41, .int (nI n), .ref 42, .int (wF w), .int (nI (wA w)), .int (nI j), .int 0, .int 0, .int (nI (wA w)), .ref 43, .ref 44, .ref 45, .ref 46, .ref 47, .ref 48, .ref 49])), (39, .inl (false, 22, (bkF s))), (40, .inl (false, 22, (bkF (prS (wS w) 1 (hN (f p)) (f (p + 1) - 97))))), (42, .inl (false, 60, f))]) dX7_goWeeks_190 fX7_73 fpX7_9 (by decide) rfl (Nat.le_of_ble_eq_true rfl) rfl rfl ?_
                      refine E_iinc (y := nI (j + 1)) (l2 := [.ref 38, .int (nI (p + 2)), .int (nI (j + 1)), .int 43]) dX7_goWeeks_193 rfl (nI_1 _) (by decide) rfl ?_
                      refine E_goto (tgt := 156) dX7_goWeeks_196 (by decide) ?_
                      have e9 := ihj
                      rw [nt_t k166 c177] at e9
                      exact e9
              exact LF 0 (by decide)
            · refine E_iload_n dX7_goWeeks_11 rfl ?_
              refine E_aload_n dX7_goWeeks_12 rfl ?_
              refine E_get dX7_goWeeks_13 fX7_60 (by decide) rfl rfl ?_
              refine E_icmp_ge (tgt := 212) dX7_goWeeks_16 (by decide) (fun c => absurd c (nI_ge (by omega) (by omega))) (fun _ => ?_)
              refine E_aload_n dX7_goWeeks_19 rfl ?_
              refine E_iconst (v := 0) dX7_goWeeks_20 (by decide) ?_
              refine E_puti (fs2 := [.ref 39, .ref 40, .int (sbu s), .int (nI q), .ref 41, .int (nI n), .ref 42, .int (wF w), .int (wG w), .int (wH w), .int 0, .int rs, .int (nI (wA w)), .ref 43, .ref 44, .ref 45, .ref 46, .ref 47, .ref 48, .ref 49]) (L2 := [(38, .inr (7, [.ref 39, .ref 40, .int (sbu s), .int (nI q), .ref 41, .int (nI n), .ref 42, .int (wF w), .int (wG w), .int (wH w), .int 0, .int rs, .int (nI (wA w)), .ref 43, .ref 44, .ref 45, .ref 46, .ref 47, .ref 48, .ref 49])), (39, .inl (false, 22, (bkF s))), (40, .inl (false, 22, (bkF (wS w)))), (42, .inl (false, 60, f))]) dX7_goWeeks_21 fX7_90 fpX7_10 (by decide) rfl (Nat.le_of_ble_eq_true rfl) rfl rfl ?_
              refine E_aload_n dX7_goWeeks_24 rfl ?_
              refine E_get dX7_goWeeks_25 fX7_23 (by decide) rfl rfl ?_
              refine E_iload_n dX7_goWeeks_28 rfl ?_
              refine E_ialdN (j := p) dX7_goWeeks_29 (by decide) rfl (by omega) (by decide) ?_
              refine E_bipush (v := 46) dX7_goWeeks_30 (by decide) ?_
              refine E_icmp_ne (tgt := 49) dX7_goWeeks_32 (by decide) (fun _ => ?_) (fun c => absurd c h46)
              refine E_aload_n dX7_goWeeks_49 rfl ?_
              refine E_get dX7_goWeeks_50 fX7_23 (by decide) rfl rfl ?_
              refine E_iload_n dX7_goWeeks_53 rfl ?_
              refine E_ialdN (j := p) dX7_goWeeks_54 (by decide) rfl (by omega) (by decide) ?_
              refine E_bipush (v := 65) dX7_goWeeks_55 (by decide) ?_
              refine E_isub dX7_goWeeks_57 ?_
              refine E_eqi (y := nI (hN (f p))) hh.2.1 ?_
              refine E_istore_n (l2 := [.ref 38, .int (nI p), .int (nI (hN (f p))), l3]) dX7_goWeeks_58 rfl (by decide) rfl ?_
              refine E_aload_n dX7_goWeeks_59 rfl ?_
              refine E_get dX7_goWeeks_60 fX7_23 (by decide) rfl rfl ?_
              refine E_iload_n dX7_goWeeks_63 rfl ?_
              refine E_iconst (v := 1) dX7_goWeeks_64 (by decide) ?_
              refine E_iadd dX7_goWeeks_65 ?_
              refine E_eqi (y := nI (p + 1)) (nI_1 _) ?_
              refine E_ialdN (j := p + 1) dX7_goWeeks_66 (by decide) rfl (by omega) (by decide) ?_
              refine E_eqi (y := 43) hd ?_
              refine E_istore_n (l2 := [.ref 38, .int (nI p), .int (nI (hN (f p))), .int 43]) dX7_goWeeks_67 rfl (by decide) rfl ?_
              refine E_aload_n dX7_goWeeks_68 rfl ?_
              refine E_iload_n dX7_goWeeks_69 rfl ?_
              refine E_bipush (v := 43) dX7_goWeeks_70 (by decide) ?_
              refine E_icmp_ne (tgt := 84) dX7_goWeeks_72 (by decide) (fun c => by first | exact absurd c (by decide) | exact absurd (by decide) c) (fun _ => ?_)
              refine E_aload_n dX7_goWeeks_75 rfl ?_
              refine E_iload_n dX7_goWeeks_76 rfl ?_
              refine E_iconst (v := 1) dX7_goWeeks_77 (by decide) ?_
              refine E_callV (As := [.int (nI (hN (f p))), .int 1]) (l' := [.ref 38, .int (nI (hN (f p))), .int 1]) (st := [.ref 38]) dX7_goWeeks_78 kX7_105 iX7_turf vX7_turf (by decide) rfl rfl MX7_turf rfl rfl (Nat.le_of_ble_eq_true rfl) (FC.use (m_turf1 (d + 3) (sbu s) (wF w) (wG w) (wH w) 0 rs (nI (wA w)) q n (wS w) hok (hN (f p)) hh.1) rfl (L2 := [(38, .inr (7, [.ref 39, .ref 40, .int (sbu s), .int (nI q), .ref 41, .int (nI n), .ref 42, .int (wF w), .int (wG w), .int (wH w), .int 0, .int rs, .int (nI (wA w)), .ref 43, .ref 44, .ref 45, .ref 46, .ref 47, .ref 48, .ref 49])), (39, .inl (false, 22, (bkF s))), (40, .inl (false, 22, (bkF (nxS (wS w) 1 (hN (f p)) 0)))), (42, .inl (false, 60, f))]) rfl) (Nat.le_of_ble_eq_true rfl) (fun _ _ hq9 => E_fgo ?_ hq9)
              show E _ _ 81 [.ref 38, .int (nI p), .int (nI (hN (f p))), .int 43] [.int (rsn (wS w) 1 (hN (f p)) 0), .ref 38] (hov hp [(38, .inr (7, [.ref 39, .ref 40, .int (sbu s), .int (nI q), .ref 41, .int (nI n), .ref 42, .int (wF w), .int (wG w), .int (wH w), .int 0, .int rs, .int (nI (wA w)), .ref 43, .ref 44, .ref 45, .ref 46, .ref 47, .ref 48, .ref 49])), (39, .inl (false, 22, (bkF s))), (40, .inl (false, 22, (bkF (nxS (wS w) 1 (hN (f p)) 0)))), (42, .inl (false, 60, f))]) _
              refine E_eqi (y := rsn (wS w) 1 (hN (f p)) (f (p + 1) - 97)) rfl ?_
              rw [show nxS (wS w) 1 (hN (f p)) 0 = wS w from nxS_1 hr]
              refine E_goto (tgt := 136) dX7_goWeeks_81 (by decide) ?_
              refine E_puti (fs2 := [.ref 39, .ref 40, .int (sbu s), .int (nI q), .ref 41, .int (nI n), .ref 42, .int (wF w), .int (wG w), .int (wH w), .int 0, .int (rsn (wS w) 1 (hN (f p)) (f (p + 1) - 97)), .int (nI (wA w)), .ref 43, .ref 44, .ref 45, .ref 46, .ref 47, .ref 48, .ref 49]) (L2 := [(38, .inr (7, [.ref 39, .ref 40, .int (sbu s), .int (nI q), .ref 41, .int (nI n), .ref 42, .int (wF w), .int (wG w), .int (wH w), .int 0, .int (rsn (wS w) 1 (hN (f p)) (f (p + 1) - 97)), .int (nI (wA w)), .ref 43, .ref 44, .ref 45, .ref 46, .ref 47, .ref 48, .ref 49])), (39, .inl (false, 22, (bkF s))), (40, .inl (false, 22, (bkF (wS w)))), (42, .inl (false, 60, f))]) dX7_goWeeks_136 fX7_102 fpX7_11 (by decide) rfl (Nat.le_of_ble_eq_true rfl) rfl rfl ?_
              refine E_iinc (y := nI (p + 2)) (l2 := [.ref 38, .int (nI (p + 2)), .int (nI (hN (f p))), .int 43]) dX7_goWeeks_139 rfl (nI_add _ 2) (by decide) rfl ?_
              refine E_aload_n dX7_goWeeks_142 rfl ?_
              refine E_get dX7_goWeeks_143 fX7_102 (by decide) rfl rfl ?_
              refine E_if_le (tgt := 154) dX7_goWeeks_146 (by decide) (fun c => absurd c (rsn_pos hr)) (fun _ => ?_)
              refine E_aload_n dX7_goWeeks_149 rfl ?_
              refine E_get dX7_goWeeks_150 fX7_96 (by decide) rfl rfl ?_
              exact E_iret (st := []) dX7_goWeeks_153 rfl rfl ⟨_, rfl, _, _, by rw [← he, wk_a1 h46 (by rw [hd]; decide) rfl rfl hr], by rw [← he, wk_a1 h46 (by rw [hd]; decide) rfl rfl hr, stA, if_neg hr], fun _ => by rw [← he, wk_a1 h46 (by rw [hd]; decide) rfl rfl hr]⟩
          · by_cases hr : rsn (wS w) 2 (hN (f p)) (f (p + 1) - 97) = 0
            · refine E_iload_n dX7_goWeeks_11 rfl ?_
              refine E_aload_n dX7_goWeeks_12 rfl ?_
              refine E_get dX7_goWeeks_13 fX7_60 (by decide) rfl rfl ?_
              refine E_icmp_ge (tgt := 212) dX7_goWeeks_16 (by decide) (fun c => absurd c (nI_ge (by omega) (by omega))) (fun _ => ?_)
              refine E_aload_n dX7_goWeeks_19 rfl ?_
              refine E_iconst (v := 0) dX7_goWeeks_20 (by decide) ?_
              refine E_puti (fs2 := [.ref 39, .ref 40, .int (sbu s), .int (nI q), .ref 41, .int (nI n), .ref 42, .int (wF w), .int (wG w), .int (wH w), .int 0, .int rs, .int (nI (wA w)), .ref 43, .ref 44, .ref 45, .ref 46, .ref 47, .ref 48, .ref 49]) (L2 := [(38, .inr (7, [.ref 39, .ref 40, .int (sbu s), .int (nI q), .ref 41, .int (nI n), .ref 42, .int (wF w), .int (wG w), .int (wH w), .int 0, .int rs, .int (nI (wA w)), .ref 43, .ref 44, .ref 45, .ref 46, .ref 47, .ref 48, .ref 49])), (39, .inl (false, 22, (bkF s))), (40, .inl (false, 22, (bkF (wS w)))), (42, .inl (false, 60, f))]) dX7_goWeeks_21 fX7_90 fpX7_10 (by decide) rfl (Nat.le_of_ble_eq_true rfl) rfl rfl ?_
              refine E_aload_n dX7_goWeeks_24 rfl ?_
              refine E_get dX7_goWeeks_25 fX7_23 (by decide) rfl rfl ?_
              refine E_iload_n dX7_goWeeks_28 rfl ?_
              refine E_ialdN (j := p) dX7_goWeeks_29 (by decide) rfl (by omega) (by decide) ?_
              refine E_bipush (v := 46) dX7_goWeeks_30 (by decide) ?_
              refine E_icmp_ne (tgt := 49) dX7_goWeeks_32 (by decide) (fun _ => ?_) (fun c => absurd c h46)
              refine E_aload_n dX7_goWeeks_49 rfl ?_
              refine E_get dX7_goWeeks_50 fX7_23 (by decide) rfl rfl ?_
              refine E_iload_n dX7_goWeeks_53 rfl ?_
              refine E_ialdN (j := p) dX7_goWeeks_54 (by decide) rfl (by omega) (by decide) ?_
              refine E_bipush (v := 65) dX7_goWeeks_55 (by decide) ?_
              refine E_isub dX7_goWeeks_57 ?_
              refine E_eqi (y := nI (hN (f p))) hh.2.1 ?_
              refine E_istore_n (l2 := [.ref 38, .int (nI p), .int (nI (hN (f p))), l3]) dX7_goWeeks_58 rfl (by decide) rfl ?_
              refine E_aload_n dX7_goWeeks_59 rfl ?_
              refine E_get dX7_goWeeks_60 fX7_23 (by decide) rfl rfl ?_
              refine E_iload_n dX7_goWeeks_63 rfl ?_
              refine E_iconst (v := 1) dX7_goWeeks_64 (by decide) ?_
              refine E_iadd dX7_goWeeks_65 ?_
              refine E_eqi (y := nI (p + 1)) (nI_1 _) ?_
              refine E_ialdN (j := p + 1) dX7_goWeeks_66 (by decide) rfl (by omega) (by decide) ?_
              refine E_eqi (y := 45) hd ?_
              refine E_istore_n (l2 := [.ref 38, .int (nI p), .int (nI (hN (f p))), .int 45]) dX7_goWeeks_67 rfl (by decide) rfl ?_
              refine E_aload_n dX7_goWeeks_68 rfl ?_
              refine E_iload_n dX7_goWeeks_69 rfl ?_
              refine E_bipush (v := 43) dX7_goWeeks_70 (by decide) ?_
              refine E_icmp_ne (tgt := 84) dX7_goWeeks_72 (by decide) (fun _ => ?_) (fun c => by first | exact absurd c (by decide) | exact absurd (by decide) c)
              refine E_iload_n dX7_goWeeks_84 rfl ?_
              refine E_bipush (v := 45) dX7_goWeeks_85 (by decide) ?_
              refine E_icmp_ne (tgt := 99) dX7_goWeeks_87 (by decide) (fun c => by first | exact absurd c (by decide) | exact absurd (by decide) c) (fun _ => ?_)
              refine E_aload_n dX7_goWeeks_90 rfl ?_
              refine E_iload_n dX7_goWeeks_91 rfl ?_
              refine E_iconst (v := (-1)) dX7_goWeeks_92 (by decide) ?_
              refine E_callV (As := [.int (nI (hN (f p))), .int (-1)]) (l' := [.ref 38, .int (nI (hN (f p))), .int (-1)]) (st := [.ref 38]) dX7_goWeeks_93 kX7_105 iX7_turf vX7_turf (by decide) rfl rfl MX7_turf rfl rfl (Nat.le_of_ble_eq_true rfl) (FC.use (m_turf2 (d + 3) (sbu s) (wF w) (wG w) (wH w) 0 rs (nI (wA w)) q n (wS w) hok (hN (f p)) hh.1) rfl (L2 := [(38, .inr (7, [.ref 39, .ref 40, .int (sbu s), .int (nI q), .ref 41, .int (nI n), .ref 42, .int (wF w), .int (wG w), .int (wH w), .int 0, .int rs, .int (nI (wA w)), .ref 43, .ref 44, .ref 45, .ref 46, .ref 47, .ref 48, .ref 49])), (39, .inl (false, 22, (bkF s))), (40, .inl (false, 22, (bkF (nxS (wS w) 2 (hN (f p)) 0)))), (42, .inl (false, 60, f))]) rfl) (Nat.le_of_ble_eq_true rfl) (fun _ _ hq9 => E_fgo ?_ hq9)
              show E _ _ 96 [.ref 38, .int (nI p), .int (nI (hN (f p))), .int 45] [.int (rsn (wS w) 2 (hN (f p)) 0), .ref 38] (hov hp [(38, .inr (7, [.ref 39, .ref 40, .int (sbu s), .int (nI q), .ref 41, .int (nI n), .ref 42, .int (wF w), .int (wG w), .int (wH w), .int 0, .int rs, .int (nI (wA w)), .ref 43, .ref 44, .ref 45, .ref 46, .ref 47, .ref 48, .ref 49])), (39, .inl (false, 22, (bkF s))), (40, .inl (false, 22, (bkF (nxS (wS w) 2 (hN (f p)) 0)))), (42, .inl (false, 60, f))]) _
              refine E_eqi (y := 0) hr ?_
              rw [show nxS (wS w) 2 (hN (f p)) 0 = prS (wS w) 2 (hN (f p)) (f (p + 1) - 97) from nxS_0 hr]
              refine E_goto (tgt := 136) dX7_goWeeks_96 (by decide) ?_
              refine E_puti (fs2 := [.ref 39, .ref 40, .int (sbu s), .int (nI q), .ref 41, .int (nI n), .ref 42, .int (wF w), .int (wG w), .int (wH w), .int 0, .int 0, .int (nI (wA w)), .ref 43, .ref 44, .ref 45, .ref 46, .ref 47, .ref 48, .ref 49]) (L2 := [(38, .inr (7, [.ref 39, .ref 40, .int (sbu s), .int (nI q), .ref 41, .int (nI n), .ref 42, .int (wF w), .int (wG w), .int (wH w), .int 0, .int 0, .int (nI (wA w)), .ref 43, .ref 44, .ref 45, .ref 46, .ref 47, .ref 48, .ref 49])), (39, .inl (false, 22, (bkF s))), (40, .inl (false, 22, (bkF (prS (wS w) 2 (hN (f p)) (f (p + 1) - 97))))), (42, .inl (false, 60, f))]) dX7_goWeeks_136 fX7_102 fpX7_11 (by decide) rfl (Nat.le_of_ble_eq_true rfl) rfl rfl ?_
              refine E_iinc (y := nI (p + 2)) (l2 := [.ref 38, .int (nI (p + 2)), .int (nI (hN (f p))), .int 45]) dX7_goWeeks_139 rfl (nI_add _ 2) (by decide) rfl ?_
              refine E_aload_n dX7_goWeeks_142 rfl ?_
              refine E_get dX7_goWeeks_143 fX7_102 (by decide) rfl rfl ?_
              refine E_if_le (tgt := 154) dX7_goWeeks_146 (by decide) (fun _ => ?_) (fun c => by first | exact absurd c (by decide) | exact absurd (by decide) c)
              refine E_iconst (v := 0) dX7_goWeeks_154 (by decide) ?_
              refine E_istore_n (l2 := [.ref 38, .int (nI (p + 2)), .int 0, .int 45]) dX7_goWeeks_155 rfl (by decide) rfl ?_
              have K199 : ∀ l2 : Value, E YX7_goWeeks (d + 5) 199 [.ref 38, .int (nI (p + 2)), l2, .int 45] [] (hov hp [(38, .inr (7, [.ref 39, .ref 40, .int (sbu s), .int (nI q), .ref 41, .int (nI n), .ref 42, .int (wF w), .int (ntG (nI (wA w)) 0 (wG w) (wH w)), .int (ntH (nI (wA w)) 0 (wG w) (wH w)), .int 0, .int 0, .int (nI (wA w)), .ref 43, .ref 44, .ref 45, .ref 46, .ref 47, .ref 48, .ref 49])), (39, .inl (false, 22, (bkF s))), (40, .inl (false, 22, (bkF (prS (wS w) 2 (hN (f p)) (f (p + 1) - 97))))), (42, .inl (false, 60, f))]) (fun v h' => ∃ M, h' = hov hp M ∧ (fun v M => ∃ fr' rs' : Int32, M = [(38, .inr (7, [.ref 39, .ref 40, .int (sbu s), .int (nI q), .ref 41, .int (nI n), .ref 42, .int (wF ((wk f n 0 (wk0 s)).1)), .int (wG ((wk f n 0 (wk0 s)).1)), .int (wH ((wk f n 0 (wk0 s)).1)), .int fr', .int rs', .int (nI (wA ((wk f n 0 (wk0 s)).1))), .ref 43, .ref 44, .ref 45, .ref 46, .ref 47, .ref 48, .ref 49])), (39, .inl (false, 22, (bkF s))), (40, .inl (false, 22, (bkF (wS (wk f n 0 (wk0 s)).1)))), (42, .inl (false, 60, f))] ∧ v = some (.int (stA (wk f n 0 (wk0 s)))) ∧ (¬ (wk f n 0 (wk0 s)).2 = 0 → rs' = (wk f n 0 (wk0 s)).2)) v M) := by
                intro l2
                refine E_aload_n dX7_goWeeks_199 rfl ?_
                refine E_dup dX7_goWeeks_200 rfl ?_
                refine E_get dX7_goWeeks_201 fX7_96 (by decide) rfl rfl ?_
                refine E_iconst (v := 1) dX7_goWeeks_204 (by decide) ?_
                refine E_iadd dX7_goWeeks_205 ?_
                refine E_eqi (y := nI (wA w + 1)) (nI_1 _) ?_
                refine E_puti (fs2 := [.ref 39, .ref 40, .int (sbu s), .int (nI q), .ref 41, .int (nI n), .ref 42, .int (wF w), .int (ntG (nI (wA w)) 0 (wG w) (wH w)), .int (ntH (nI (wA w)) 0 (wG w) (wH w)), .int 0, .int 0, .int (nI (wA w + 1)), .ref 43, .ref 44, .ref 45, .ref 46, .ref 47, .ref 48, .ref 49]) (L2 := [(38, .inr (7, [.ref 39, .ref 40, .int (sbu s), .int (nI q), .ref 41, .int (nI n), .ref 42, .int (wF w), .int (ntG (nI (wA w)) 0 (wG w) (wH w)), .int (ntH (nI (wA w)) 0 (wG w) (wH w)), .int 0, .int 0, .int (nI (wA w + 1)), .ref 43, .ref 44, .ref 45, .ref 46, .ref 47, .ref 48, .ref 49])), (39, .inl (false, 22, (bkF s))), (40, .inl (false, 22, (bkF (prS (wS w) 2 (hN (f p)) (f (p + 1) - 97))))), (42, .inl (false, 60, f))]) dX7_goWeeks_206 fX7_96 fpX7_12 (by decide) rfl (Nat.le_of_ble_eq_true rfl) rfl rfl ?_
                refine E_goto (tgt := 11) dX7_goWeeks_209 (by decide) ?_
                have e9 := ih _ (by omega) (p + 2) (wkn w 2 (hN (f p)) (f (p + 1) - 97)) l2 (.int 45) 0 0 (by omega) hfl (by rw [← he, wk_a0 h46 (by rw [hd]; decide) rfl rfl hr]) (by rw [wkn_S]; exact prS_ok hok (by first | omega | exact hh.1) (by decide) (by first | exact hc0 | (intro h; exact absurd h (by decide))) hr) (by rw [wkn_S, prS_bu]; exact hbu) (by rw [wkn_G]; exact ntG_gok (by omega) hgk) (by rw [wkn_A]; omega)
                simp only [wkn_S, wkn_A, wkn_F, wkn_G, wkn_H] at e9
                rw [show prF (wS w) 2 = 0 from rfl, bc0, add0I] at e9
                exact e9
              have LF : ∀ j, j ≤ 6 → E YX7_goWeeks (d + 5) 156 [.ref 38, .int (nI (p + 2)), .int (nI j), .int 45] [] (hov hp [(38, .inr (7, [.ref 39, .ref 40, .int (sbu s), .int (nI q), .ref 41, .int (nI n), .ref 42, .int (wF w), .int ((nt (nI (wA w)) 0 (wG w) (wH w) j).1), .int ((nt (nI (wA w)) 0 (wG w) (wH w) j).2), .int 0, .int 0, .int (nI (wA w)), .ref 43, .ref 44, .ref 45, .ref 46, .ref 47, .ref 48, .ref 49])), (39, .inl (false, 22, (bkF s))), (40, .inl (false, 22, (bkF (prS (wS w) 2 (hN (f p)) (f (p + 1) - 97))))), (42, .inl (false, 60, f))]) (fun v h' => ∃ M, h' = hov hp M ∧ (fun v M => ∃ fr' rs' : Int32, M = [(38, .inr (7, [.ref 39, .ref 40, .int (sbu s), .int (nI q), .ref 41, .int (nI n), .ref 42, .int (wF ((wk f n 0 (wk0 s)).1)), .int (wG ((wk f n 0 (wk0 s)).1)), .int (wH ((wk f n 0 (wk0 s)).1)), .int fr', .int rs', .int (nI (wA ((wk f n 0 (wk0 s)).1))), .ref 43, .ref 44, .ref 45, .ref 46, .ref 47, .ref 48, .ref 49])), (39, .inl (false, 22, (bkF s))), (40, .inl (false, 22, (bkF (wS (wk f n 0 (wk0 s)).1)))), (42, .inl (false, 60, f))] ∧ v = some (.int (stA (wk f n 0 (wk0 s)))) ∧ (¬ (wk f n 0 (wk0 s)).2 = 0 → rs' = (wk f n 0 (wk0 s)).2)) v M) := by
                refine down 6 ?_ ?_
                · refine E_iload_n dX7_goWeeks_156 rfl ?_
                  refine E_bipush (v := 6) dX7_goWeeks_157 (by decide) ?_
                  refine E_icmp_ge (tgt := 199) dX7_goWeeks_159 (by decide) (fun _ => ?_) (fun c => absurd (by decide) c)
                  exact K199 _
                · intro j hj ihj
                  have hgj := nt_gok (a := wA w) (x := 0) (h := wH w) (by omega) hgk j
                  refine E_iload_n dX7_goWeeks_156 rfl ?_
                  refine E_bipush (v := 6) dX7_goWeeks_157 (by decide) ?_
                  refine E_icmp_ge (tgt := 199) dX7_goWeeks_159 (by decide) (fun c => absurd c (cI_nle (n := 6) rfl hj (by decide))) (fun _ => ?_)
                  refine E_aload_n dX7_goWeeks_162 rfl ?_
                  refine E_get dX7_goWeeks_163 fX7_70 (by decide) rfl rfl ?_
                  refine E_if_ge (tgt := 199) dX7_goWeeks_166 (by decide) (fun c166 => ?_) (fun c166 => ?_)
                  · have k166 := ntG_6 (Nat.le_of_lt hj) (hgj.pos c166)
                    have e9 := K199 (.int (nI j))
                    rw [k166.1, k166.2] at e9
                    exact e9
                  · have k166 := hgj.neg c166
                    refine E_aload_n dX7_goWeeks_169 rfl ?_
                    refine E_get dX7_goWeeks_170 fX7_90 (by decide) rfl rfl ?_
                    refine E_iload_n dX7_goWeeks_173 rfl ?_
                    refine E_callS (As := [.int 0, .int (nI j)]) (l' := [.int 0, .int (nI j)]) (st := []) dX7_goWeeks_174 kX7_80 sX7_has MX7_has rfl rfl (Nat.le_of_ble_eq_true rfl) (FC.use (c_has (d + 4) _ _) rfl (L2 := [(38, .inr (7, [.ref 39, .ref 40, .int (sbu s), .int (nI q), .ref 41, .int (nI n), .ref 42, .int (wF w), .int ((nt (nI (wA w)) 0 (wG w) (wH w) j).1), .int ((nt (nI (wA w)) 0 (wG w) (wH w) j).2), .int 0, .int 0, .int (nI (wA w)), .ref 43, .ref 44, .ref 45, .ref 46, .ref 47, .ref 48, .ref 49])), (39, .inl (false, 22, (bkF s))), (40, .inl (false, 22, (bkF (prS (wS w) 2 (hN (f p)) (f (p + 1) - 97))))), (42, .inl (false, 60, f))]) rfl) (Nat.le_of_ble_eq_true rfl) (fun _ _ hq9 => E_fgo ?_ hq9)
                    show E _ _ 177 [.ref 38, .int (nI (p + 2)), .int (nI j), .int 45] [.int (b2i (hbt 0 (nI j)))] (hov hp [(38, .inr (7, [.ref 39, .ref 40, .int (sbu s), .int (nI q), .ref 41, .int (nI n), .ref 42, .int (wF w), .int ((nt (nI (wA w)) 0 (wG w) (wH w) j).1), .int ((nt (nI (wA w)) 0 (wG w) (wH w) j).2), .int 0, .int 0, .int (nI (wA w)), .ref 43, .ref 44, .ref 45, .ref 46, .ref 47, .ref 48, .ref 49])), (39, .inl (false, 22, (bkF s))), (40, .inl (false, 22, (bkF (prS (wS w) 2 (hN (f p)) (f (p + 1) - 97))))), (42, .inl (false, 60, f))]) _
                    refine E_if_eq (tgt := 193) dX7_goWeeks_177 (by decide) (fun c177 => ?_) (fun c177 => ?_)
                    · have c177 := b2i_e0 c177
                      refine E_iinc (y := nI (j + 1)) (l2 := [.ref 38, .int (nI (p + 2)), .int (nI (j + 1)), .int 45]) dX7_goWeeks_193 rfl (nI_1 _) (by decide) rfl ?_
                      refine E_goto (tgt := 156) dX7_goWeeks_196 (by decide) ?_
                      have e9 := ihj
                      rw [nt_f c177] at e9
                      exact e9
                    · have c177 := b2i_n0 c177
                      refine E_aload_n dX7_goWeeks_180 rfl ?_
                      refine E_aload_n dX7_goWeeks_181 rfl ?_
                      refine E_get dX7_goWeeks_182 fX7_96 (by decide) rfl rfl ?_
                      refine E_puti (fs2 := [.ref 39, .ref 40, .int (sbu s), .int (nI q), .ref 41, .int (nI n), .ref 42, .int (wF w), .int (nI (wA w)), .int ((nt (nI (wA w)) 0 (wG w) (wH w) j).2), .int 0, .int 0, .int (nI (wA w)), .ref 43, .ref 44, .ref 45, .ref 46, .ref 47, .ref 48, .ref 49]) (L2 := [(38, .inr (7, [.ref 39, .ref 40, .int (sbu s), .int (nI q), .ref 41, .int (nI n), .ref 42, .int (wF w), .int (nI (wA w)), .int ((nt (nI (wA w)) 0 (wG w) (wH w) j).2), .int 0, .int 0, .int (nI (wA w)), .ref 43, .ref 44, .ref 45, .ref 46, .ref 47, .ref 48, .ref 49])), (39, .inl (false, 22, (bkF s))), (40, .inl (false, 22, (bkF (prS (wS w) 2 (hN (f p)) (f (p + 1) - 97))))), (42, .inl (false, 60, f))]) dX7_goWeeks_185 fX7_70 fpX7_8 (by decide) rfl (Nat.le_of_ble_eq_true rfl) rfl rfl ?_
                      refine E_aload_n dX7_goWeeks_188 rfl ?_
                      refine E_iload_n dX7_goWeeks_189 rfl ?_
                      refine E_puti (fs2 := [.ref 39, .ref 40, .int (sbu s), .int (nI q), .ref 41, .int (nI n), .ref 42, .int (wF w), .int (nI (wA w)), .int (nI j), .int 0, .int 0, .int (nI (wA w)), .ref 43, .ref 44, .ref 45, .ref 46, .ref 47, .ref 48, .ref 49]) (L2 := [(38, .inr (7, [.ref 39, .ref 40, .int (sbu s), .int (nI q), .ref 41, .int (nI n), .ref 42, .int (wF w), .int (nI (wA w)), .int (nI j), .int 0, .int 0, .int (nI (wA w)), .ref 43, .ref 44, .ref 45, .ref 46, .ref 47, .ref 48, .ref 49])), (39, .inl (false, 22, (bkF s))), (40, .inl (false, 22, (bkF (prS (wS w) 2 (hN (f p)) (f (p + 1) - 97))))), (42, .inl (false, 60, f))]) dX7_goWeeks_190 fX7_73 fpX7_9 (by decide) rfl (Nat.le_of_ble_eq_true rfl) rfl rfl ?_
                      refine E_iinc (y := nI (j + 1)) (l2 := [.ref 38, .int (nI (p + 2)), .int (nI (j + 1)), .int 45]) dX7_goWeeks_193 rfl (nI_1 _) (by decide) rfl ?_
                      refine E_goto (tgt := 156) dX7_goWeeks_196 (by decide) ?_
                      have e9 := ihj
                      rw [nt_t k166 c177] at e9
                      exact e9
              exact LF 0 (by decide)
            · refine E_iload_n dX7_goWeeks_11 rfl ?_
              refine E_aload_n dX7_goWeeks_12 rfl ?_
              refine E_get dX7_goWeeks_13 fX7_60 (by decide) rfl rfl ?_
              refine E_icmp_ge (tgt := 212) dX7_goWeeks_16 (by decide) (fun c => absurd c (nI_ge (by omega) (by omega))) (fun _ => ?_)
              refine E_aload_n dX7_goWeeks_19 rfl ?_
              refine E_iconst (v := 0) dX7_goWeeks_20 (by decide) ?_
              refine E_puti (fs2 := [.ref 39, .ref 40, .int (sbu s), .int (nI q), .ref 41, .int (nI n), .ref 42, .int (wF w), .int (wG w), .int (wH w), .int 0, .int rs, .int (nI (wA w)), .ref 43, .ref 44, .ref 45, .ref 46, .ref 47, .ref 48, .ref 49]) (L2 := [(38, .inr (7, [.ref 39, .ref 40, .int (sbu s), .int (nI q), .ref 41, .int (nI n), .ref 42, .int (wF w), .int (wG w), .int (wH w), .int 0, .int rs, .int (nI (wA w)), .ref 43, .ref 44, .ref 45, .ref 46, .ref 47, .ref 48, .ref 49])), (39, .inl (false, 22, (bkF s))), (40, .inl (false, 22, (bkF (wS w)))), (42, .inl (false, 60, f))]) dX7_goWeeks_21 fX7_90 fpX7_10 (by decide) rfl (Nat.le_of_ble_eq_true rfl) rfl rfl ?_
              refine E_aload_n dX7_goWeeks_24 rfl ?_
              refine E_get dX7_goWeeks_25 fX7_23 (by decide) rfl rfl ?_
              refine E_iload_n dX7_goWeeks_28 rfl ?_
              refine E_ialdN (j := p) dX7_goWeeks_29 (by decide) rfl (by omega) (by decide) ?_
              refine E_bipush (v := 46) dX7_goWeeks_30 (by decide) ?_
              refine E_icmp_ne (tgt := 49) dX7_goWeeks_32 (by decide) (fun _ => ?_) (fun c => absurd c h46)
              refine E_aload_n dX7_goWeeks_49 rfl ?_
              refine E_get dX7_goWeeks_50 fX7_23 (by decide) rfl rfl ?_
              refine E_iload_n dX7_goWeeks_53 rfl ?_
              refine E_ialdN (j := p) dX7_goWeeks_54 (by decide) rfl (by omega) (by decide) ?_
              refine E_bipush (v := 65) dX7_goWeeks_55 (by decide) ?_
              refine E_isub dX7_goWeeks_57 ?_
              refine E_eqi (y := nI (hN (f p))) hh.2.1 ?_
              refine E_istore_n (l2 := [.ref 38, .int (nI p), .int (nI (hN (f p))), l3]) dX7_goWeeks_58 rfl (by decide) rfl ?_
              refine E_aload_n dX7_goWeeks_59 rfl ?_
              refine E_get dX7_goWeeks_60 fX7_23 (by decide) rfl rfl ?_
              refine E_iload_n dX7_goWeeks_63 rfl ?_
              refine E_iconst (v := 1) dX7_goWeeks_64 (by decide) ?_
              refine E_iadd dX7_goWeeks_65 ?_
              refine E_eqi (y := nI (p + 1)) (nI_1 _) ?_
              refine E_ialdN (j := p + 1) dX7_goWeeks_66 (by decide) rfl (by omega) (by decide) ?_
              refine E_eqi (y := 45) hd ?_
              refine E_istore_n (l2 := [.ref 38, .int (nI p), .int (nI (hN (f p))), .int 45]) dX7_goWeeks_67 rfl (by decide) rfl ?_
              refine E_aload_n dX7_goWeeks_68 rfl ?_
              refine E_iload_n dX7_goWeeks_69 rfl ?_
              refine E_bipush (v := 43) dX7_goWeeks_70 (by decide) ?_
              refine E_icmp_ne (tgt := 84) dX7_goWeeks_72 (by decide) (fun _ => ?_) (fun c => by first | exact absurd c (by decide) | exact absurd (by decide) c)
              refine E_iload_n dX7_goWeeks_84 rfl ?_
              refine E_bipush (v := 45) dX7_goWeeks_85 (by decide) ?_
              refine E_icmp_ne (tgt := 99) dX7_goWeeks_87 (by decide) (fun c => by first | exact absurd c (by decide) | exact absurd (by decide) c) (fun _ => ?_)
              refine E_aload_n dX7_goWeeks_90 rfl ?_
              refine E_iload_n dX7_goWeeks_91 rfl ?_
              refine E_iconst (v := (-1)) dX7_goWeeks_92 (by decide) ?_
              refine E_callV (As := [.int (nI (hN (f p))), .int (-1)]) (l' := [.ref 38, .int (nI (hN (f p))), .int (-1)]) (st := [.ref 38]) dX7_goWeeks_93 kX7_105 iX7_turf vX7_turf (by decide) rfl rfl MX7_turf rfl rfl (Nat.le_of_ble_eq_true rfl) (FC.use (m_turf2 (d + 3) (sbu s) (wF w) (wG w) (wH w) 0 rs (nI (wA w)) q n (wS w) hok (hN (f p)) hh.1) rfl (L2 := [(38, .inr (7, [.ref 39, .ref 40, .int (sbu s), .int (nI q), .ref 41, .int (nI n), .ref 42, .int (wF w), .int (wG w), .int (wH w), .int 0, .int rs, .int (nI (wA w)), .ref 43, .ref 44, .ref 45, .ref 46, .ref 47, .ref 48, .ref 49])), (39, .inl (false, 22, (bkF s))), (40, .inl (false, 22, (bkF (nxS (wS w) 2 (hN (f p)) 0)))), (42, .inl (false, 60, f))]) rfl) (Nat.le_of_ble_eq_true rfl) (fun _ _ hq9 => E_fgo ?_ hq9)
              show E _ _ 96 [.ref 38, .int (nI p), .int (nI (hN (f p))), .int 45] [.int (rsn (wS w) 2 (hN (f p)) 0), .ref 38] (hov hp [(38, .inr (7, [.ref 39, .ref 40, .int (sbu s), .int (nI q), .ref 41, .int (nI n), .ref 42, .int (wF w), .int (wG w), .int (wH w), .int 0, .int rs, .int (nI (wA w)), .ref 43, .ref 44, .ref 45, .ref 46, .ref 47, .ref 48, .ref 49])), (39, .inl (false, 22, (bkF s))), (40, .inl (false, 22, (bkF (nxS (wS w) 2 (hN (f p)) 0)))), (42, .inl (false, 60, f))]) _
              refine E_eqi (y := rsn (wS w) 2 (hN (f p)) (f (p + 1) - 97)) rfl ?_
              rw [show nxS (wS w) 2 (hN (f p)) 0 = wS w from nxS_1 hr]
              refine E_goto (tgt := 136) dX7_goWeeks_96 (by decide) ?_
              refine E_puti (fs2 := [.ref 39, .ref 40, .int (sbu s), .int (nI q), .ref 41, .int (nI n), .ref 42, .int (wF w), .int (wG w), .int (wH w), .int 0, .int (rsn (wS w) 2 (hN (f p)) (f (p + 1) - 97)), .int (nI (wA w)), .ref 43, .ref 44, .ref 45, .ref 46, .ref 47, .ref 48, .ref 49]) (L2 := [(38, .inr (7, [.ref 39, .ref 40, .int (sbu s), .int (nI q), .ref 41, .int (nI n), .ref 42, .int (wF w), .int (wG w), .int (wH w), .int 0, .int (rsn (wS w) 2 (hN (f p)) (f (p + 1) - 97)), .int (nI (wA w)), .ref 43, .ref 44, .ref 45, .ref 46, .ref 47, .ref 48, .ref 49])), (39, .inl (false, 22, (bkF s))), (40, .inl (false, 22, (bkF (wS w)))), (42, .inl (false, 60, f))]) dX7_goWeeks_136 fX7_102 fpX7_11 (by decide) rfl (Nat.le_of_ble_eq_true rfl) rfl rfl ?_
              refine E_iinc (y := nI (p + 2)) (l2 := [.ref 38, .int (nI (p + 2)), .int (nI (hN (f p))), .int 45]) dX7_goWeeks_139 rfl (nI_add _ 2) (by decide) rfl ?_
              refine E_aload_n dX7_goWeeks_142 rfl ?_
              refine E_get dX7_goWeeks_143 fX7_102 (by decide) rfl rfl ?_
              refine E_if_le (tgt := 154) dX7_goWeeks_146 (by decide) (fun c => absurd c (rsn_pos hr)) (fun _ => ?_)
              refine E_aload_n dX7_goWeeks_149 rfl ?_
              refine E_get dX7_goWeeks_150 fX7_96 (by decide) rfl rfl ?_
              exact E_iret (st := []) dX7_goWeeks_153 rfl rfl ⟨_, rfl, _, _, by rw [← he, wk_a1 h46 (by rw [hd]; decide) rfl rfl hr], by rw [← he, wk_a1 h46 (by rw [hd]; decide) rfl rfl hr, stA, if_neg hr], fun _ => by rw [← he, wk_a1 h46 (by rw [hd]; decide) rfl rfl hr]⟩
          · by_cases hr : rsn (wS w) 3 (hN (f p)) (f (p + 1) - 97) = 0
            · refine E_iload_n dX7_goWeeks_11 rfl ?_
              refine E_aload_n dX7_goWeeks_12 rfl ?_
              refine E_get dX7_goWeeks_13 fX7_60 (by decide) rfl rfl ?_
              refine E_icmp_ge (tgt := 212) dX7_goWeeks_16 (by decide) (fun c => absurd c (nI_ge (by omega) (by omega))) (fun _ => ?_)
              refine E_aload_n dX7_goWeeks_19 rfl ?_
              refine E_iconst (v := 0) dX7_goWeeks_20 (by decide) ?_
              refine E_puti (fs2 := [.ref 39, .ref 40, .int (sbu s), .int (nI q), .ref 41, .int (nI n), .ref 42, .int (wF w), .int (wG w), .int (wH w), .int 0, .int rs, .int (nI (wA w)), .ref 43, .ref 44, .ref 45, .ref 46, .ref 47, .ref 48, .ref 49]) (L2 := [(38, .inr (7, [.ref 39, .ref 40, .int (sbu s), .int (nI q), .ref 41, .int (nI n), .ref 42, .int (wF w), .int (wG w), .int (wH w), .int 0, .int rs, .int (nI (wA w)), .ref 43, .ref 44, .ref 45, .ref 46, .ref 47, .ref 48, .ref 49])), (39, .inl (false, 22, (bkF s))), (40, .inl (false, 22, (bkF (wS w)))), (42, .inl (false, 60, f))]) dX7_goWeeks_21 fX7_90 fpX7_10 (by decide) rfl (Nat.le_of_ble_eq_true rfl) rfl rfl ?_
              refine E_aload_n dX7_goWeeks_24 rfl ?_
              refine E_get dX7_goWeeks_25 fX7_23 (by decide) rfl rfl ?_
              refine E_iload_n dX7_goWeeks_28 rfl ?_
              refine E_ialdN (j := p) dX7_goWeeks_29 (by decide) rfl (by omega) (by decide) ?_
              refine E_bipush (v := 46) dX7_goWeeks_30 (by decide) ?_
              refine E_icmp_ne (tgt := 49) dX7_goWeeks_32 (by decide) (fun _ => ?_) (fun c => absurd c h46)
              refine E_aload_n dX7_goWeeks_49 rfl ?_
              refine E_get dX7_goWeeks_50 fX7_23 (by decide) rfl rfl ?_
              refine E_iload_n dX7_goWeeks_53 rfl ?_
              refine E_ialdN (j := p) dX7_goWeeks_54 (by decide) rfl (by omega) (by decide) ?_
              refine E_bipush (v := 65) dX7_goWeeks_55 (by decide) ?_
              refine E_isub dX7_goWeeks_57 ?_
              refine E_eqi (y := nI (hN (f p))) hh.2.1 ?_
              refine E_istore_n (l2 := [.ref 38, .int (nI p), .int (nI (hN (f p))), l3]) dX7_goWeeks_58 rfl (by decide) rfl ?_
              refine E_aload_n dX7_goWeeks_59 rfl ?_
              refine E_get dX7_goWeeks_60 fX7_23 (by decide) rfl rfl ?_
              refine E_iload_n dX7_goWeeks_63 rfl ?_
              refine E_iconst (v := 1) dX7_goWeeks_64 (by decide) ?_
              refine E_iadd dX7_goWeeks_65 ?_
              refine E_eqi (y := nI (p + 1)) (nI_1 _) ?_
              refine E_ialdN (j := p + 1) dX7_goWeeks_66 (by decide) rfl (by omega) (by decide) ?_
              refine E_eqi (y := 42) hd ?_
              refine E_istore_n (l2 := [.ref 38, .int (nI p), .int (nI (hN (f p))), .int 42]) dX7_goWeeks_67 rfl (by decide) rfl ?_
              refine E_aload_n dX7_goWeeks_68 rfl ?_
              refine E_iload_n dX7_goWeeks_69 rfl ?_
              refine E_bipush (v := 43) dX7_goWeeks_70 (by decide) ?_
              refine E_icmp_ne (tgt := 84) dX7_goWeeks_72 (by decide) (fun _ => ?_) (fun c => by first | exact absurd c (by decide) | exact absurd (by decide) c)
              refine E_iload_n dX7_goWeeks_84 rfl ?_
              refine E_bipush (v := 45) dX7_goWeeks_85 (by decide) ?_
              refine E_icmp_ne (tgt := 99) dX7_goWeeks_87 (by decide) (fun _ => ?_) (fun c => by first | exact absurd c (by decide) | exact absurd (by decide) c)
              refine E_iload_n dX7_goWeeks_99 rfl ?_
              refine E_bipush (v := 42) dX7_goWeeks_100 (by decide) ?_
              refine E_icmp_ne (tgt := 113) dX7_goWeeks_102 (by decide) (fun c => by first | exact absurd c (by decide) | exact absurd (by decide) c) (fun _ => ?_)
              refine E_aload_n dX7_goWeeks_105 rfl ?_
              refine E_iload_n dX7_goWeeks_106 rfl ?_
              refine E_callV (As := [.int (nI (hN (f p)))]) (l' := [.ref 38, .int (nI (hN (f p)))]) (st := [.ref 38]) dX7_goWeeks_107 kX7_108 iX7_kindle vX7_kindle (by decide) rfl rfl MX7_kindle rfl rfl (Nat.le_of_ble_eq_true rfl) (FC.use (m_kindle (d + 3) (sbu s) (wF w) (wG w) (wH w) 0 rs (nI (wA w)) q n (wS w) hok (hN (f p)) hh.1) rfl (L2 := [(38, .inr (7, [.ref 39, .ref 40, .int (sbu s), .int (nI q), .ref 41, .int (nI n), .ref 42, .int (wF w), .int (wG w), .int (wH w), .int 0, .int rs, .int (nI (wA w)), .ref 43, .ref 44, .ref 45, .ref 46, .ref 47, .ref 48, .ref 49])), (39, .inl (false, 22, (bkF s))), (40, .inl (false, 22, (bkF (nxS (wS w) 3 (hN (f p)) 0)))), (42, .inl (false, 60, f))]) rfl) (Nat.le_of_ble_eq_true rfl) (fun _ _ hq9 => E_fgo ?_ hq9)
              show E _ _ 110 [.ref 38, .int (nI p), .int (nI (hN (f p))), .int 42] [.int (rsn (wS w) 3 (hN (f p)) 0), .ref 38] (hov hp [(38, .inr (7, [.ref 39, .ref 40, .int (sbu s), .int (nI q), .ref 41, .int (nI n), .ref 42, .int (wF w), .int (wG w), .int (wH w), .int 0, .int rs, .int (nI (wA w)), .ref 43, .ref 44, .ref 45, .ref 46, .ref 47, .ref 48, .ref 49])), (39, .inl (false, 22, (bkF s))), (40, .inl (false, 22, (bkF (nxS (wS w) 3 (hN (f p)) 0)))), (42, .inl (false, 60, f))]) _
              refine E_eqi (y := 0) hr ?_
              rw [show nxS (wS w) 3 (hN (f p)) 0 = prS (wS w) 3 (hN (f p)) (f (p + 1) - 97) from nxS_0 hr]
              refine E_goto (tgt := 136) dX7_goWeeks_110 (by decide) ?_
              refine E_puti (fs2 := [.ref 39, .ref 40, .int (sbu s), .int (nI q), .ref 41, .int (nI n), .ref 42, .int (wF w), .int (wG w), .int (wH w), .int 0, .int 0, .int (nI (wA w)), .ref 43, .ref 44, .ref 45, .ref 46, .ref 47, .ref 48, .ref 49]) (L2 := [(38, .inr (7, [.ref 39, .ref 40, .int (sbu s), .int (nI q), .ref 41, .int (nI n), .ref 42, .int (wF w), .int (wG w), .int (wH w), .int 0, .int 0, .int (nI (wA w)), .ref 43, .ref 44, .ref 45, .ref 46, .ref 47, .ref 48, .ref 49])), (39, .inl (false, 22, (bkF s))), (40, .inl (false, 22, (bkF (prS (wS w) 3 (hN (f p)) (f (p + 1) - 97))))), (42, .inl (false, 60, f))]) dX7_goWeeks_136 fX7_102 fpX7_11 (by decide) rfl (Nat.le_of_ble_eq_true rfl) rfl rfl ?_
              refine E_iinc (y := nI (p + 2)) (l2 := [.ref 38, .int (nI (p + 2)), .int (nI (hN (f p))), .int 42]) dX7_goWeeks_139 rfl (nI_add _ 2) (by decide) rfl ?_
              refine E_aload_n dX7_goWeeks_142 rfl ?_
              refine E_get dX7_goWeeks_143 fX7_102 (by decide) rfl rfl ?_
              refine E_if_le (tgt := 154) dX7_goWeeks_146 (by decide) (fun _ => ?_) (fun c => by first | exact absurd c (by decide) | exact absurd (by decide) c)
              refine E_iconst (v := 0) dX7_goWeeks_154 (by decide) ?_
              refine E_istore_n (l2 := [.ref 38, .int (nI (p + 2)), .int 0, .int 42]) dX7_goWeeks_155 rfl (by decide) rfl ?_
              have K199 : ∀ l2 : Value, E YX7_goWeeks (d + 5) 199 [.ref 38, .int (nI (p + 2)), l2, .int 42] [] (hov hp [(38, .inr (7, [.ref 39, .ref 40, .int (sbu s), .int (nI q), .ref 41, .int (nI n), .ref 42, .int (wF w), .int (ntG (nI (wA w)) 0 (wG w) (wH w)), .int (ntH (nI (wA w)) 0 (wG w) (wH w)), .int 0, .int 0, .int (nI (wA w)), .ref 43, .ref 44, .ref 45, .ref 46, .ref 47, .ref 48, .ref 49])), (39, .inl (false, 22, (bkF s))), (40, .inl (false, 22, (bkF (prS (wS w) 3 (hN (f p)) (f (p + 1) - 97))))), (42, .inl (false, 60, f))]) (fun v h' => ∃ M, h' = hov hp M ∧ (fun v M => ∃ fr' rs' : Int32, M = [(38, .inr (7, [.ref 39, .ref 40, .int (sbu s), .int (nI q), .ref 41, .int (nI n), .ref 42, .int (wF ((wk f n 0 (wk0 s)).1)), .int (wG ((wk f n 0 (wk0 s)).1)), .int (wH ((wk f n 0 (wk0 s)).1)), .int fr', .int rs', .int (nI (wA ((wk f n 0 (wk0 s)).1))), .ref 43, .ref 44, .ref 45, .ref 46, .ref 47, .ref 48, .ref 49])), (39, .inl (false, 22, (bkF s))), (40, .inl (false, 22, (bkF (wS (wk f n 0 (wk0 s)).1)))), (42, .inl (false, 60, f))] ∧ v = some (.int (stA (wk f n 0 (wk0 s)))) ∧ (¬ (wk f n 0 (wk0 s)).2 = 0 → rs' = (wk f n 0 (wk0 s)).2)) v M) := by
                intro l2
                refine E_aload_n dX7_goWeeks_199 rfl ?_
                refine E_dup dX7_goWeeks_200 rfl ?_
                refine E_get dX7_goWeeks_201 fX7_96 (by decide) rfl rfl ?_
                refine E_iconst (v := 1) dX7_goWeeks_204 (by decide) ?_
                refine E_iadd dX7_goWeeks_205 ?_
                refine E_eqi (y := nI (wA w + 1)) (nI_1 _) ?_
                refine E_puti (fs2 := [.ref 39, .ref 40, .int (sbu s), .int (nI q), .ref 41, .int (nI n), .ref 42, .int (wF w), .int (ntG (nI (wA w)) 0 (wG w) (wH w)), .int (ntH (nI (wA w)) 0 (wG w) (wH w)), .int 0, .int 0, .int (nI (wA w + 1)), .ref 43, .ref 44, .ref 45, .ref 46, .ref 47, .ref 48, .ref 49]) (L2 := [(38, .inr (7, [.ref 39, .ref 40, .int (sbu s), .int (nI q), .ref 41, .int (nI n), .ref 42, .int (wF w), .int (ntG (nI (wA w)) 0 (wG w) (wH w)), .int (ntH (nI (wA w)) 0 (wG w) (wH w)), .int 0, .int 0, .int (nI (wA w + 1)), .ref 43, .ref 44, .ref 45, .ref 46, .ref 47, .ref 48, .ref 49])), (39, .inl (false, 22, (bkF s))), (40, .inl (false, 22, (bkF (prS (wS w) 3 (hN (f p)) (f (p + 1) - 97))))), (42, .inl (false, 60, f))]) dX7_goWeeks_206 fX7_96 fpX7_12 (by decide) rfl (Nat.le_of_ble_eq_true rfl) rfl rfl ?_
                refine E_goto (tgt := 11) dX7_goWeeks_209 (by decide) ?_
                have e9 := ih _ (by omega) (p + 2) (wkn w 3 (hN (f p)) (f (p + 1) - 97)) l2 (.int 42) 0 0 (by omega) hfl (by rw [← he, wk_a0 h46 (by rw [hd]; decide) rfl rfl hr]) (by rw [wkn_S]; exact prS_ok hok (by first | omega | exact hh.1) (by decide) (by first | exact hc0 | (intro h; exact absurd h (by decide))) hr) (by rw [wkn_S, prS_bu]; exact hbu) (by rw [wkn_G]; exact ntG_gok (by omega) hgk) (by rw [wkn_A]; omega)
                simp only [wkn_S, wkn_A, wkn_F, wkn_G, wkn_H] at e9
                rw [show prF (wS w) 3 = 0 from rfl, bc0, add0I] at e9
                exact e9
              have LF : ∀ j, j ≤ 6 → E YX7_goWeeks (d + 5) 156 [.ref 38, .int (nI (p + 2)), .int (nI j), .int 42] [] (hov hp [(38, .inr (7, [.ref 39, .ref 40, .int (sbu s), .int (nI q), .ref 41, .int (nI n), .ref 42, .int (wF w), .int ((nt (nI (wA w)) 0 (wG w) (wH w) j).1), .int ((nt (nI (wA w)) 0 (wG w) (wH w) j).2), .int 0, .int 0, .int (nI (wA w)), .ref 43, .ref 44, .ref 45, .ref 46, .ref 47, .ref 48, .ref 49])), (39, .inl (false, 22, (bkF s))), (40, .inl (false, 22, (bkF (prS (wS w) 3 (hN (f p)) (f (p + 1) - 97))))), (42, .inl (false, 60, f))]) (fun v h' => ∃ M, h' = hov hp M ∧ (fun v M => ∃ fr' rs' : Int32, M = [(38, .inr (7, [.ref 39, .ref 40, .int (sbu s), .int (nI q), .ref 41, .int (nI n), .ref 42, .int (wF ((wk f n 0 (wk0 s)).1)), .int (wG ((wk f n 0 (wk0 s)).1)), .int (wH ((wk f n 0 (wk0 s)).1)), .int fr', .int rs', .int (nI (wA ((wk f n 0 (wk0 s)).1))), .ref 43, .ref 44, .ref 45, .ref 46, .ref 47, .ref 48, .ref 49])), (39, .inl (false, 22, (bkF s))), (40, .inl (false, 22, (bkF (wS (wk f n 0 (wk0 s)).1)))), (42, .inl (false, 60, f))] ∧ v = some (.int (stA (wk f n 0 (wk0 s)))) ∧ (¬ (wk f n 0 (wk0 s)).2 = 0 → rs' = (wk f n 0 (wk0 s)).2)) v M) := by
                refine down 6 ?_ ?_
                · refine E_iload_n dX7_goWeeks_156 rfl ?_
                  refine E_bipush (v := 6) dX7_goWeeks_157 (by decide) ?_
                  refine E_icmp_ge (tgt := 199) dX7_goWeeks_159 (by decide) (fun _ => ?_) (fun c => absurd (by decide) c)
                  exact K199 _
                · intro j hj ihj
                  have hgj := nt_gok (a := wA w) (x := 0) (h := wH w) (by omega) hgk j
                  refine E_iload_n dX7_goWeeks_156 rfl ?_
                  refine E_bipush (v := 6) dX7_goWeeks_157 (by decide) ?_
                  refine E_icmp_ge (tgt := 199) dX7_goWeeks_159 (by decide) (fun c => absurd c (cI_nle (n := 6) rfl hj (by decide))) (fun _ => ?_)
                  refine E_aload_n dX7_goWeeks_162 rfl ?_
                  refine E_get dX7_goWeeks_163 fX7_70 (by decide) rfl rfl ?_
                  refine E_if_ge (tgt := 199) dX7_goWeeks_166 (by decide) (fun c166 => ?_) (fun c166 => ?_)
                  · have k166 := ntG_6 (Nat.le_of_lt hj) (hgj.pos c166)
                    have e9 := K199 (.int (nI j))
                    rw [k166.1, k166.2] at e9
                    exact e9
                  · have k166 := hgj.neg c166
                    refine E_aload_n dX7_goWeeks_169 rfl ?_
                    refine E_get dX7_goWeeks_170 fX7_90 (by decide) rfl rfl ?_
                    refine E_iload_n dX7_goWeeks_173 rfl ?_
                    refine E_callS (As := [.int 0, .int (nI j)]) (l' := [.int 0, .int (nI j)]) (st := []) dX7_goWeeks_174 kX7_80 sX7_has MX7_has rfl rfl (Nat.le_of_ble_eq_true rfl) (FC.use (c_has (d + 4) _ _) rfl (L2 := [(38, .inr (7, [.ref 39, .ref 40, .int (sbu s), .int (nI q), .ref 41, .int (nI n), .ref 42, .int (wF w), .int ((nt (nI (wA w)) 0 (wG w) (wH w) j).1), .int ((nt (nI (wA w)) 0 (wG w) (wH w) j).2), .int 0, .int 0, .int (nI (wA w)), .ref 43, .ref 44, .ref 45, .ref 46, .ref 47, .ref 48, .ref 49])), (39, .inl (false, 22, (bkF s))), (40, .inl (false, 22, (bkF (prS (wS w) 3 (hN (f p)) (f (p + 1) - 97))))), (42, .inl (false, 60, f))]) rfl) (Nat.le_of_ble_eq_true rfl) (fun _ _ hq9 => E_fgo ?_ hq9)
                    show E _ _ 177 [.ref 38, .int (nI (p + 2)), .int (nI j), .int 42] [.int (b2i (hbt 0 (nI j)))] (hov hp [(38, .inr (7, [.ref 39, .ref 40, .int (sbu s), .int (nI q), .ref 41, .int (nI n), .ref 42, .int (wF w), .int ((nt (nI (wA w)) 0 (wG w) (wH w) j).1), .int ((nt (nI (wA w)) 0 (wG w) (wH w) j).2), .int 0, .int 0, .int (nI (wA w)), .ref 43, .ref 44, .ref 45, .ref 46, .ref 47, .ref 48, .ref 49])), (39, .inl (false, 22, (bkF s))), (40, .inl (false, 22, (bkF (prS (wS w) 3 (hN (f p)) (f (p + 1) - 97))))), (42, .inl (false, 60, f))]) _
                    refine E_if_eq (tgt := 193) dX7_goWeeks_177 (by decide) (fun c177 => ?_) (fun c177 => ?_)
                    · have c177 := b2i_e0 c177
                      refine E_iinc (y := nI (j + 1)) (l2 := [.ref 38, .int (nI (p + 2)), .int (nI (j + 1)), .int 42]) dX7_goWeeks_193 rfl (nI_1 _) (by decide) rfl ?_
                      refine E_goto (tgt := 156) dX7_goWeeks_196 (by decide) ?_
                      have e9 := ihj
                      rw [nt_f c177] at e9
                      exact e9
                    · have c177 := b2i_n0 c177
                      refine E_aload_n dX7_goWeeks_180 rfl ?_
                      refine E_aload_n dX7_goWeeks_181 rfl ?_
                      refine E_get dX7_goWeeks_182 fX7_96 (by decide) rfl rfl ?_
                      refine E_puti (fs2 := [.ref 39, .ref 40, .int (sbu s), .int (nI q), .ref 41, .int (nI n), .ref 42, .int (wF w), .int (nI (wA w)), .int ((nt (nI (wA w)) 0 (wG w) (wH w) j).2), .int 0, .int 0, .int (nI (wA w)), .ref 43, .ref 44, .ref 45, .ref 46, .ref 47, .ref 48, .ref 49]) (L2 := [(38, .inr (7, [.ref 39, .ref 40, .int (sbu s), .int (nI q), .ref 41, .int (nI n), .ref 42, .int (wF w), .int (nI (wA w)), .int ((nt (nI (wA w)) 0 (wG w) (wH w) j).2), .int 0, .int 0, .int (nI (wA w)), .ref 43, .ref 44, .ref 45, .ref 46, .ref 47, .ref 48, .ref 49])), (39, .inl (false, 22, (bkF s))), (40, .inl (false, 22, (bkF (prS (wS w) 3 (hN (f p)) (f (p + 1) - 97))))), (42, .inl (false, 60, f))]) dX7_goWeeks_185 fX7_70 fpX7_8 (by decide) rfl (Nat.le_of_ble_eq_true rfl) rfl rfl ?_
                      refine E_aload_n dX7_goWeeks_188 rfl ?_
                      refine E_iload_n dX7_goWeeks_189 rfl ?_
                      refine E_puti (fs2 := [.ref 39, .ref 40, .int (sbu s), .int (nI q), .ref 41, .int (nI n), .ref 42, .int (wF w), .int (nI (wA w)), .int (nI j), .int 0, .int 0, .int (nI (wA w)), .ref 43, .ref 44, .ref 45, .ref 46, .ref 47, .ref 48, .ref 49]) (L2 := [(38, .inr (7, [.ref 39, .ref 40, .int (sbu s), .int (nI q), .ref 41, .int (nI n), .ref 42, .int (wF w), .int (nI (wA w)), .int (nI j), .int 0, .int 0, .int (nI (wA w)), .ref 43, .ref 44, .ref 45, .ref 46, .ref 47, .ref 48, .ref 49])), (39, .inl (false, 22, (bkF s))), (40, .inl (false, 22, (bkF (prS (wS w) 3 (hN (f p)) (f (p + 1) - 97))))), (42, .inl (false, 60, f))]) dX7_goWeeks_190 fX7_73 fpX7_9 (by decide) rfl (Nat.le_of_ble_eq_true rfl) rfl rfl ?_
                      refine E_iinc (y := nI (j + 1)) (l2 := [.ref 38, .int (nI (p + 2)), .int (nI (j + 1)), .int 42]) dX7_goWeeks_193 rfl (nI_1 _) (by decide) rfl ?_
                      refine E_goto (tgt := 156) dX7_goWeeks_196 (by decide) ?_
                      have e9 := ihj
                      rw [nt_t k166 c177] at e9
                      exact e9
              exact LF 0 (by decide)
            · refine E_iload_n dX7_goWeeks_11 rfl ?_
              refine E_aload_n dX7_goWeeks_12 rfl ?_
              refine E_get dX7_goWeeks_13 fX7_60 (by decide) rfl rfl ?_
              refine E_icmp_ge (tgt := 212) dX7_goWeeks_16 (by decide) (fun c => absurd c (nI_ge (by omega) (by omega))) (fun _ => ?_)
              refine E_aload_n dX7_goWeeks_19 rfl ?_
              refine E_iconst (v := 0) dX7_goWeeks_20 (by decide) ?_
              refine E_puti (fs2 := [.ref 39, .ref 40, .int (sbu s), .int (nI q), .ref 41, .int (nI n), .ref 42, .int (wF w), .int (wG w), .int (wH w), .int 0, .int rs, .int (nI (wA w)), .ref 43, .ref 44, .ref 45, .ref 46, .ref 47, .ref 48, .ref 49]) (L2 := [(38, .inr (7, [.ref 39, .ref 40, .int (sbu s), .int (nI q), .ref 41, .int (nI n), .ref 42, .int (wF w), .int (wG w), .int (wH w), .int 0, .int rs, .int (nI (wA w)), .ref 43, .ref 44, .ref 45, .ref 46, .ref 47, .ref 48, .ref 49])), (39, .inl (false, 22, (bkF s))), (40, .inl (false, 22, (bkF (wS w)))), (42, .inl (false, 60, f))]) dX7_goWeeks_21 fX7_90 fpX7_10 (by decide) rfl (Nat.le_of_ble_eq_true rfl) rfl rfl ?_
              refine E_aload_n dX7_goWeeks_24 rfl ?_
              refine E_get dX7_goWeeks_25 fX7_23 (by decide) rfl rfl ?_
              refine E_iload_n dX7_goWeeks_28 rfl ?_
              refine E_ialdN (j := p) dX7_goWeeks_29 (by decide) rfl (by omega) (by decide) ?_
              refine E_bipush (v := 46) dX7_goWeeks_30 (by decide) ?_
              refine E_icmp_ne (tgt := 49) dX7_goWeeks_32 (by decide) (fun _ => ?_) (fun c => absurd c h46)
              refine E_aload_n dX7_goWeeks_49 rfl ?_
              refine E_get dX7_goWeeks_50 fX7_23 (by decide) rfl rfl ?_
              refine E_iload_n dX7_goWeeks_53 rfl ?_
              refine E_ialdN (j := p) dX7_goWeeks_54 (by decide) rfl (by omega) (by decide) ?_
              refine E_bipush (v := 65) dX7_goWeeks_55 (by decide) ?_
              refine E_isub dX7_goWeeks_57 ?_
              refine E_eqi (y := nI (hN (f p))) hh.2.1 ?_
              refine E_istore_n (l2 := [.ref 38, .int (nI p), .int (nI (hN (f p))), l3]) dX7_goWeeks_58 rfl (by decide) rfl ?_
              refine E_aload_n dX7_goWeeks_59 rfl ?_
              refine E_get dX7_goWeeks_60 fX7_23 (by decide) rfl rfl ?_
              refine E_iload_n dX7_goWeeks_63 rfl ?_
              refine E_iconst (v := 1) dX7_goWeeks_64 (by decide) ?_
              refine E_iadd dX7_goWeeks_65 ?_
              refine E_eqi (y := nI (p + 1)) (nI_1 _) ?_
              refine E_ialdN (j := p + 1) dX7_goWeeks_66 (by decide) rfl (by omega) (by decide) ?_
              refine E_eqi (y := 42) hd ?_
              refine E_istore_n (l2 := [.ref 38, .int (nI p), .int (nI (hN (f p))), .int 42]) dX7_goWeeks_67 rfl (by decide) rfl ?_
              refine E_aload_n dX7_goWeeks_68 rfl ?_
              refine E_iload_n dX7_goWeeks_69 rfl ?_
              refine E_bipush (v := 43) dX7_goWeeks_70 (by decide) ?_
              refine E_icmp_ne (tgt := 84) dX7_goWeeks_72 (by decide) (fun _ => ?_) (fun c => by first | exact absurd c (by decide) | exact absurd (by decide) c)
              refine E_iload_n dX7_goWeeks_84 rfl ?_
              refine E_bipush (v := 45) dX7_goWeeks_85 (by decide) ?_
              refine E_icmp_ne (tgt := 99) dX7_goWeeks_87 (by decide) (fun _ => ?_) (fun c => by first | exact absurd c (by decide) | exact absurd (by decide) c)
              refine E_iload_n dX7_goWeeks_99 rfl ?_
              refine E_bipush (v := 42) dX7_goWeeks_100 (by decide) ?_
              refine E_icmp_ne (tgt := 113) dX7_goWeeks_102 (by decide) (fun c => by first | exact absurd c (by decide) | exact absurd (by decide) c) (fun _ => ?_)
              refine E_aload_n dX7_goWeeks_105 rfl ?_
              refine E_iload_n dX7_goWeeks_106 rfl ?_
              refine E_callV (As := [.int (nI (hN (f p)))]) (l' := [.ref 38, .int (nI (hN (f p)))]) (st := [.ref 38]) dX7_goWeeks_107 kX7_108 iX7_kindle vX7_kindle (by decide) rfl rfl MX7_kindle rfl rfl (Nat.le_of_ble_eq_true rfl) (FC.use (m_kindle (d + 3) (sbu s) (wF w) (wG w) (wH w) 0 rs (nI (wA w)) q n (wS w) hok (hN (f p)) hh.1) rfl (L2 := [(38, .inr (7, [.ref 39, .ref 40, .int (sbu s), .int (nI q), .ref 41, .int (nI n), .ref 42, .int (wF w), .int (wG w), .int (wH w), .int 0, .int rs, .int (nI (wA w)), .ref 43, .ref 44, .ref 45, .ref 46, .ref 47, .ref 48, .ref 49])), (39, .inl (false, 22, (bkF s))), (40, .inl (false, 22, (bkF (nxS (wS w) 3 (hN (f p)) 0)))), (42, .inl (false, 60, f))]) rfl) (Nat.le_of_ble_eq_true rfl) (fun _ _ hq9 => E_fgo ?_ hq9)
              show E _ _ 110 [.ref 38, .int (nI p), .int (nI (hN (f p))), .int 42] [.int (rsn (wS w) 3 (hN (f p)) 0), .ref 38] (hov hp [(38, .inr (7, [.ref 39, .ref 40, .int (sbu s), .int (nI q), .ref 41, .int (nI n), .ref 42, .int (wF w), .int (wG w), .int (wH w), .int 0, .int rs, .int (nI (wA w)), .ref 43, .ref 44, .ref 45, .ref 46, .ref 47, .ref 48, .ref 49])), (39, .inl (false, 22, (bkF s))), (40, .inl (false, 22, (bkF (nxS (wS w) 3 (hN (f p)) 0)))), (42, .inl (false, 60, f))]) _
              refine E_eqi (y := rsn (wS w) 3 (hN (f p)) (f (p + 1) - 97)) rfl ?_
              rw [show nxS (wS w) 3 (hN (f p)) 0 = wS w from nxS_1 hr]
              refine E_goto (tgt := 136) dX7_goWeeks_110 (by decide) ?_
              refine E_puti (fs2 := [.ref 39, .ref 40, .int (sbu s), .int (nI q), .ref 41, .int (nI n), .ref 42, .int (wF w), .int (wG w), .int (wH w), .int 0, .int (rsn (wS w) 3 (hN (f p)) (f (p + 1) - 97)), .int (nI (wA w)), .ref 43, .ref 44, .ref 45, .ref 46, .ref 47, .ref 48, .ref 49]) (L2 := [(38, .inr (7, [.ref 39, .ref 40, .int (sbu s), .int (nI q), .ref 41, .int (nI n), .ref 42, .int (wF w), .int (wG w), .int (wH w), .int 0, .int (rsn (wS w) 3 (hN (f p)) (f (p + 1) - 97)), .int (nI (wA w)), .ref 43, .ref 44, .ref 45, .ref 46, .ref 47, .ref 48, .ref 49])), (39, .inl (false, 22, (bkF s))), (40, .inl (false, 22, (bkF (wS w)))), (42, .inl (false, 60, f))]) dX7_goWeeks_136 fX7_102 fpX7_11 (by decide) rfl (Nat.le_of_ble_eq_true rfl) rfl rfl ?_
              refine E_iinc (y := nI (p + 2)) (l2 := [.ref 38, .int (nI (p + 2)), .int (nI (hN (f p))), .int 42]) dX7_goWeeks_139 rfl (nI_add _ 2) (by decide) rfl ?_
              refine E_aload_n dX7_goWeeks_142 rfl ?_
              refine E_get dX7_goWeeks_143 fX7_102 (by decide) rfl rfl ?_
              refine E_if_le (tgt := 154) dX7_goWeeks_146 (by decide) (fun c => absurd c (rsn_pos hr)) (fun _ => ?_)
              refine E_aload_n dX7_goWeeks_149 rfl ?_
              refine E_get dX7_goWeeks_150 fX7_96 (by decide) rfl rfl ?_
              exact E_iret (st := []) dX7_goWeeks_153 rfl rfl ⟨_, rfl, _, _, by rw [← he, wk_a1 h46 (by rw [hd]; decide) rfl rfl hr], by rw [← he, wk_a1 h46 (by rw [hd]; decide) rfl rfl hr, stA, if_neg hr], fun _ => by rw [← he, wk_a1 h46 (by rw [hd]; decide) rfl rfl hr]⟩
          · by_cases hr : rsn (wS w) 4 (hN (f p)) (f (p + 1) - 97) = 0
            · refine E_iload_n dX7_goWeeks_11 rfl ?_
              refine E_aload_n dX7_goWeeks_12 rfl ?_
              refine E_get dX7_goWeeks_13 fX7_60 (by decide) rfl rfl ?_
              refine E_icmp_ge (tgt := 212) dX7_goWeeks_16 (by decide) (fun c => absurd c (nI_ge (by omega) (by omega))) (fun _ => ?_)
              refine E_aload_n dX7_goWeeks_19 rfl ?_
              refine E_iconst (v := 0) dX7_goWeeks_20 (by decide) ?_
              refine E_puti (fs2 := [.ref 39, .ref 40, .int (sbu s), .int (nI q), .ref 41, .int (nI n), .ref 42, .int (wF w), .int (wG w), .int (wH w), .int 0, .int rs, .int (nI (wA w)), .ref 43, .ref 44, .ref 45, .ref 46, .ref 47, .ref 48, .ref 49]) (L2 := [(38, .inr (7, [.ref 39, .ref 40, .int (sbu s), .int (nI q), .ref 41, .int (nI n), .ref 42, .int (wF w), .int (wG w), .int (wH w), .int 0, .int rs, .int (nI (wA w)), .ref 43, .ref 44, .ref 45, .ref 46, .ref 47, .ref 48, .ref 49])), (39, .inl (false, 22, (bkF s))), (40, .inl (false, 22, (bkF (wS w)))), (42, .inl (false, 60, f))]) dX7_goWeeks_21 fX7_90 fpX7_10 (by decide) rfl (Nat.le_of_ble_eq_true rfl) rfl rfl ?_
              refine E_aload_n dX7_goWeeks_24 rfl ?_
              refine E_get dX7_goWeeks_25 fX7_23 (by decide) rfl rfl ?_
              refine E_iload_n dX7_goWeeks_28 rfl ?_
              refine E_ialdN (j := p) dX7_goWeeks_29 (by decide) rfl (by omega) (by decide) ?_
              refine E_bipush (v := 46) dX7_goWeeks_30 (by decide) ?_
              refine E_icmp_ne (tgt := 49) dX7_goWeeks_32 (by decide) (fun _ => ?_) (fun c => absurd c h46)
              refine E_aload_n dX7_goWeeks_49 rfl ?_
              refine E_get dX7_goWeeks_50 fX7_23 (by decide) rfl rfl ?_
              refine E_iload_n dX7_goWeeks_53 rfl ?_
              refine E_ialdN (j := p) dX7_goWeeks_54 (by decide) rfl (by omega) (by decide) ?_
              refine E_bipush (v := 65) dX7_goWeeks_55 (by decide) ?_
              refine E_isub dX7_goWeeks_57 ?_
              refine E_eqi (y := nI (hN (f p))) hh.2.1 ?_
              refine E_istore_n (l2 := [.ref 38, .int (nI p), .int (nI (hN (f p))), l3]) dX7_goWeeks_58 rfl (by decide) rfl ?_
              refine E_aload_n dX7_goWeeks_59 rfl ?_
              refine E_get dX7_goWeeks_60 fX7_23 (by decide) rfl rfl ?_
              refine E_iload_n dX7_goWeeks_63 rfl ?_
              refine E_iconst (v := 1) dX7_goWeeks_64 (by decide) ?_
              refine E_iadd dX7_goWeeks_65 ?_
              refine E_eqi (y := nI (p + 1)) (nI_1 _) ?_
              refine E_ialdN (j := p + 1) dX7_goWeeks_66 (by decide) rfl (by omega) (by decide) ?_
              refine E_eqi (y := 94) hd ?_
              refine E_istore_n (l2 := [.ref 38, .int (nI p), .int (nI (hN (f p))), .int 94]) dX7_goWeeks_67 rfl (by decide) rfl ?_
              refine E_aload_n dX7_goWeeks_68 rfl ?_
              refine E_iload_n dX7_goWeeks_69 rfl ?_
              refine E_bipush (v := 43) dX7_goWeeks_70 (by decide) ?_
              refine E_icmp_ne (tgt := 84) dX7_goWeeks_72 (by decide) (fun _ => ?_) (fun c => by first | exact absurd c (by decide) | exact absurd (by decide) c)
              refine E_iload_n dX7_goWeeks_84 rfl ?_
              refine E_bipush (v := 45) dX7_goWeeks_85 (by decide) ?_
              refine E_icmp_ne (tgt := 99) dX7_goWeeks_87 (by decide) (fun _ => ?_) (fun c => by first | exact absurd c (by decide) | exact absurd (by decide) c)
              refine E_iload_n dX7_goWeeks_99 rfl ?_
              refine E_bipush (v := 42) dX7_goWeeks_100 (by decide) ?_
              refine E_icmp_ne (tgt := 113) dX7_goWeeks_102 (by decide) (fun _ => ?_) (fun c => by first | exact absurd c (by decide) | exact absurd (by decide) c)
              refine E_iload_n dX7_goWeeks_113 rfl ?_
              refine E_bipush (v := 94) dX7_goWeeks_114 (by decide) ?_
              refine E_icmp_ne (tgt := 127) dX7_goWeeks_116 (by decide) (fun c => by first | exact absurd c (by decide) | exact absurd (by decide) c) (fun _ => ?_)
              refine E_aload_n dX7_goWeeks_119 rfl ?_
              refine E_iload_n dX7_goWeeks_120 rfl ?_
              refine E_callV (As := [.int (nI (hN (f p)))]) (l' := [.ref 38, .int (nI (hN (f p)))]) (st := [.ref 38]) dX7_goWeeks_121 kX7_111 iX7_watch vX7_watch (by decide) rfl rfl MX7_watch rfl rfl (Nat.le_of_ble_eq_true rfl) (FC.use (m_watch (d + 3) (sbu s) (wF w) (wG w) (wH w) 0 rs (nI (wA w)) q n (wS w) hok (hN (f p)) hh.1 hbu.symm) rfl (L2 := [(38, .inr (7, [.ref 39, .ref 40, .int (sbu s), .int (nI q), .ref 41, .int (nI n), .ref 42, .int (wF w), .int (wG w), .int (wH w), .int 0, .int rs, .int (nI (wA w)), .ref 43, .ref 44, .ref 45, .ref 46, .ref 47, .ref 48, .ref 49])), (39, .inl (false, 22, (bkF s))), (40, .inl (false, 22, (bkF (nxS (wS w) 4 (hN (f p)) 0)))), (42, .inl (false, 60, f))]) rfl) (Nat.le_of_ble_eq_true rfl) (fun _ _ hq9 => E_fgo ?_ hq9)
              show E _ _ 124 [.ref 38, .int (nI p), .int (nI (hN (f p))), .int 94] [.int (rsn (wS w) 4 (hN (f p)) 0), .ref 38] (hov hp [(38, .inr (7, [.ref 39, .ref 40, .int (sbu s), .int (nI q), .ref 41, .int (nI n), .ref 42, .int (wF w), .int (wG w), .int (wH w), .int 0, .int rs, .int (nI (wA w)), .ref 43, .ref 44, .ref 45, .ref 46, .ref 47, .ref 48, .ref 49])), (39, .inl (false, 22, (bkF s))), (40, .inl (false, 22, (bkF (nxS (wS w) 4 (hN (f p)) 0)))), (42, .inl (false, 60, f))]) _
              refine E_eqi (y := 0) hr ?_
              rw [show nxS (wS w) 4 (hN (f p)) 0 = prS (wS w) 4 (hN (f p)) (f (p + 1) - 97) from nxS_0 hr]
              refine E_goto (tgt := 136) dX7_goWeeks_124 (by decide) ?_
              refine E_puti (fs2 := [.ref 39, .ref 40, .int (sbu s), .int (nI q), .ref 41, .int (nI n), .ref 42, .int (wF w), .int (wG w), .int (wH w), .int 0, .int 0, .int (nI (wA w)), .ref 43, .ref 44, .ref 45, .ref 46, .ref 47, .ref 48, .ref 49]) (L2 := [(38, .inr (7, [.ref 39, .ref 40, .int (sbu s), .int (nI q), .ref 41, .int (nI n), .ref 42, .int (wF w), .int (wG w), .int (wH w), .int 0, .int 0, .int (nI (wA w)), .ref 43, .ref 44, .ref 45, .ref 46, .ref 47, .ref 48, .ref 49])), (39, .inl (false, 22, (bkF s))), (40, .inl (false, 22, (bkF (prS (wS w) 4 (hN (f p)) (f (p + 1) - 97))))), (42, .inl (false, 60, f))]) dX7_goWeeks_136 fX7_102 fpX7_11 (by decide) rfl (Nat.le_of_ble_eq_true rfl) rfl rfl ?_
              refine E_iinc (y := nI (p + 2)) (l2 := [.ref 38, .int (nI (p + 2)), .int (nI (hN (f p))), .int 94]) dX7_goWeeks_139 rfl (nI_add _ 2) (by decide) rfl ?_
              refine E_aload_n dX7_goWeeks_142 rfl ?_
              refine E_get dX7_goWeeks_143 fX7_102 (by decide) rfl rfl ?_
              refine E_if_le (tgt := 154) dX7_goWeeks_146 (by decide) (fun _ => ?_) (fun c => by first | exact absurd c (by decide) | exact absurd (by decide) c)
              refine E_iconst (v := 0) dX7_goWeeks_154 (by decide) ?_
              refine E_istore_n (l2 := [.ref 38, .int (nI (p + 2)), .int 0, .int 94]) dX7_goWeeks_155 rfl (by decide) rfl ?_
              have K199 : ∀ l2 : Value, E YX7_goWeeks (d + 5) 199 [.ref 38, .int (nI (p + 2)), l2, .int 94] [] (hov hp [(38, .inr (7, [.ref 39, .ref 40, .int (sbu s), .int (nI q), .ref 41, .int (nI n), .ref 42, .int (wF w), .int (ntG (nI (wA w)) 0 (wG w) (wH w)), .int (ntH (nI (wA w)) 0 (wG w) (wH w)), .int 0, .int 0, .int (nI (wA w)), .ref 43, .ref 44, .ref 45, .ref 46, .ref 47, .ref 48, .ref 49])), (39, .inl (false, 22, (bkF s))), (40, .inl (false, 22, (bkF (prS (wS w) 4 (hN (f p)) (f (p + 1) - 97))))), (42, .inl (false, 60, f))]) (fun v h' => ∃ M, h' = hov hp M ∧ (fun v M => ∃ fr' rs' : Int32, M = [(38, .inr (7, [.ref 39, .ref 40, .int (sbu s), .int (nI q), .ref 41, .int (nI n), .ref 42, .int (wF ((wk f n 0 (wk0 s)).1)), .int (wG ((wk f n 0 (wk0 s)).1)), .int (wH ((wk f n 0 (wk0 s)).1)), .int fr', .int rs', .int (nI (wA ((wk f n 0 (wk0 s)).1))), .ref 43, .ref 44, .ref 45, .ref 46, .ref 47, .ref 48, .ref 49])), (39, .inl (false, 22, (bkF s))), (40, .inl (false, 22, (bkF (wS (wk f n 0 (wk0 s)).1)))), (42, .inl (false, 60, f))] ∧ v = some (.int (stA (wk f n 0 (wk0 s)))) ∧ (¬ (wk f n 0 (wk0 s)).2 = 0 → rs' = (wk f n 0 (wk0 s)).2)) v M) := by
                intro l2
                refine E_aload_n dX7_goWeeks_199 rfl ?_
                refine E_dup dX7_goWeeks_200 rfl ?_
                refine E_get dX7_goWeeks_201 fX7_96 (by decide) rfl rfl ?_
                refine E_iconst (v := 1) dX7_goWeeks_204 (by decide) ?_
                refine E_iadd dX7_goWeeks_205 ?_
                refine E_eqi (y := nI (wA w + 1)) (nI_1 _) ?_
                refine E_puti (fs2 := [.ref 39, .ref 40, .int (sbu s), .int (nI q), .ref 41, .int (nI n), .ref 42, .int (wF w), .int (ntG (nI (wA w)) 0 (wG w) (wH w)), .int (ntH (nI (wA w)) 0 (wG w) (wH w)), .int 0, .int 0, .int (nI (wA w + 1)), .ref 43, .ref 44, .ref 45, .ref 46, .ref 47, .ref 48, .ref 49]) (L2 := [(38, .inr (7, [.ref 39, .ref 40, .int (sbu s), .int (nI q), .ref 41, .int (nI n), .ref 42, .int (wF w), .int (ntG (nI (wA w)) 0 (wG w) (wH w)), .int (ntH (nI (wA w)) 0 (wG w) (wH w)), .int 0, .int 0, .int (nI (wA w + 1)), .ref 43, .ref 44, .ref 45, .ref 46, .ref 47, .ref 48, .ref 49])), (39, .inl (false, 22, (bkF s))), (40, .inl (false, 22, (bkF (prS (wS w) 4 (hN (f p)) (f (p + 1) - 97))))), (42, .inl (false, 60, f))]) dX7_goWeeks_206 fX7_96 fpX7_12 (by decide) rfl (Nat.le_of_ble_eq_true rfl) rfl rfl ?_
                refine E_goto (tgt := 11) dX7_goWeeks_209 (by decide) ?_
                have e9 := ih _ (by omega) (p + 2) (wkn w 4 (hN (f p)) (f (p + 1) - 97)) l2 (.int 94) 0 0 (by omega) hfl (by rw [← he, wk_a0 h46 (by rw [hd]; decide) rfl rfl hr]) (by rw [wkn_S]; exact prS_ok hok (by first | omega | exact hh.1) (by decide) (by first | exact hc0 | (intro h; exact absurd h (by decide))) hr) (by rw [wkn_S, prS_bu]; exact hbu) (by rw [wkn_G]; exact ntG_gok (by omega) hgk) (by rw [wkn_A]; omega)
                simp only [wkn_S, wkn_A, wkn_F, wkn_G, wkn_H] at e9
                rw [show prF (wS w) 4 = 0 from rfl, bc0, add0I] at e9
                exact e9
              have LF : ∀ j, j ≤ 6 → E YX7_goWeeks (d + 5) 156 [.ref 38, .int (nI (p + 2)), .int (nI j), .int 94] [] (hov hp [(38, .inr (7, [.ref 39, .ref 40, .int (sbu s), .int (nI q), .ref 41, .int (nI n), .ref 42, .int (wF w), .int ((nt (nI (wA w)) 0 (wG w) (wH w) j).1), .int ((nt (nI (wA w)) 0 (wG w) (wH w) j).2), .int 0, .int 0, .int (nI (wA w)), .ref 43, .ref 44, .ref 45, .ref 46, .ref 47, .ref 48, .ref 49])), (39, .inl (false, 22, (bkF s))), (40, .inl (false, 22, (bkF (prS (wS w) 4 (hN (f p)) (f (p + 1) - 97))))), (42, .inl (false, 60, f))]) (fun v h' => ∃ M, h' = hov hp M ∧ (fun v M => ∃ fr' rs' : Int32, M = [(38, .inr (7, [.ref 39, .ref 40, .int (sbu s), .int (nI q), .ref 41, .int (nI n), .ref 42, .int (wF ((wk f n 0 (wk0 s)).1)), .int (wG ((wk f n 0 (wk0 s)).1)), .int (wH ((wk f n 0 (wk0 s)).1)), .int fr', .int rs', .int (nI (wA ((wk f n 0 (wk0 s)).1))), .ref 43, .ref 44, .ref 45, .ref 46, .ref 47, .ref 48, .ref 49])), (39, .inl (false, 22, (bkF s))), (40, .inl (false, 22, (bkF (wS (wk f n 0 (wk0 s)).1)))), (42, .inl (false, 60, f))] ∧ v = some (.int (stA (wk f n 0 (wk0 s)))) ∧ (¬ (wk f n 0 (wk0 s)).2 = 0 → rs' = (wk f n 0 (wk0 s)).2)) v M) := by
                refine down 6 ?_ ?_
                · refine E_iload_n dX7_goWeeks_156 rfl ?_
                  refine E_bipush (v := 6) dX7_goWeeks_157 (by decide) ?_
                  refine E_icmp_ge (tgt := 199) dX7_goWeeks_159 (by decide) (fun _ => ?_) (fun c => absurd (by decide) c)
                  exact K199 _
                · intro j hj ihj
                  have hgj := nt_gok (a := wA w) (x := 0) (h := wH w) (by omega) hgk j
                  refine E_iload_n dX7_goWeeks_156 rfl ?_
                  refine E_bipush (v := 6) dX7_goWeeks_157 (by decide) ?_
                  refine E_icmp_ge (tgt := 199) dX7_goWeeks_159 (by decide) (fun c => absurd c (cI_nle (n := 6) rfl hj (by decide))) (fun _ => ?_)
                  refine E_aload_n dX7_goWeeks_162 rfl ?_
                  refine E_get dX7_goWeeks_163 fX7_70 (by decide) rfl rfl ?_
                  refine E_if_ge (tgt := 199) dX7_goWeeks_166 (by decide) (fun c166 => ?_) (fun c166 => ?_)
                  · have k166 := ntG_6 (Nat.le_of_lt hj) (hgj.pos c166)
                    have e9 := K199 (.int (nI j))
                    rw [k166.1, k166.2] at e9
                    exact e9
                  · have k166 := hgj.neg c166
                    refine E_aload_n dX7_goWeeks_169 rfl ?_
                    refine E_get dX7_goWeeks_170 fX7_90 (by decide) rfl rfl ?_
                    refine E_iload_n dX7_goWeeks_173 rfl ?_
                    refine E_callS (As := [.int 0, .int (nI j)]) (l' := [.int 0, .int (nI j)]) (st := []) dX7_goWeeks_174 kX7_80 sX7_has MX7_has rfl rfl (Nat.le_of_ble_eq_true rfl) (FC.use (c_has (d + 4) _ _) rfl (L2 := [(38, .inr (7, [.ref 39, .ref 40, .int (sbu s), .int (nI q), .ref 41, .int (nI n), .ref 42, .int (wF w), .int ((nt (nI (wA w)) 0 (wG w) (wH w) j).1), .int ((nt (nI (wA w)) 0 (wG w) (wH w) j).2), .int 0, .int 0, .int (nI (wA w)), .ref 43, .ref 44, .ref 45, .ref 46, .ref 47, .ref 48, .ref 49])), (39, .inl (false, 22, (bkF s))), (40, .inl (false, 22, (bkF (prS (wS w) 4 (hN (f p)) (f (p + 1) - 97))))), (42, .inl (false, 60, f))]) rfl) (Nat.le_of_ble_eq_true rfl) (fun _ _ hq9 => E_fgo ?_ hq9)
                    show E _ _ 177 [.ref 38, .int (nI (p + 2)), .int (nI j), .int 94] [.int (b2i (hbt 0 (nI j)))] (hov hp [(38, .inr (7, [.ref 39, .ref 40, .int (sbu s), .int (nI q), .ref 41, .int (nI n), .ref 42, .int (wF w), .int ((nt (nI (wA w)) 0 (wG w) (wH w) j).1), .int ((nt (nI (wA w)) 0 (wG w) (wH w) j).2), .int 0, .int 0, .int (nI (wA w)), .ref 43, .ref 44, .ref 45, .ref 46, .ref 47, .ref 48, .ref 49])), (39, .inl (false, 22, (bkF s))), (40, .inl (false, 22, (bkF (prS (wS w) 4 (hN (f p)) (f (p + 1) - 97))))), (42, .inl (false, 60, f))]) _
                    refine E_if_eq (tgt := 193) dX7_goWeeks_177 (by decide) (fun c177 => ?_) (fun c177 => ?_)
                    · have c177 := b2i_e0 c177
                      refine E_iinc (y := nI (j + 1)) (l2 := [.ref 38, .int (nI (p + 2)), .int (nI (j + 1)), .int 94]) dX7_goWeeks_193 rfl (nI_1 _) (by decide) rfl ?_
                      refine E_goto (tgt := 156) dX7_goWeeks_196 (by decide) ?_
                      have e9 := ihj
                      rw [nt_f c177] at e9
                      exact e9
                    · have c177 := b2i_n0 c177
                      refine E_aload_n dX7_goWeeks_180 rfl ?_
                      refine E_aload_n dX7_goWeeks_181 rfl ?_
                      refine E_get dX7_goWeeks_182 fX7_96 (by decide) rfl rfl ?_
                      refine E_puti (fs2 := [.ref 39, .ref 40, .int (sbu s), .int (nI q), .ref 41, .int (nI n), .ref 42, .int (wF w), .int (nI (wA w)), .int ((nt (nI (wA w)) 0 (wG w) (wH w) j).2), .int 0, .int 0, .int (nI (wA w)), .ref 43, .ref 44, .ref 45, .ref 46, .ref 47, .ref 48, .ref 49]) (L2 := [(38, .inr (7, [.ref 39, .ref 40, .int (sbu s), .int (nI q), .ref 41, .int (nI n), .ref 42, .int (wF w), .int (nI (wA w)), .int ((nt (nI (wA w)) 0 (wG w) (wH w) j).2), .int 0, .int 0, .int (nI (wA w)), .ref 43, .ref 44, .ref 45, .ref 46, .ref 47, .ref 48, .ref 49])), (39, .inl (false, 22, (bkF s))), (40, .inl (false, 22, (bkF (prS (wS w) 4 (hN (f p)) (f (p + 1) - 97))))), (42, .inl (false, 60, f))]) dX7_goWeeks_185 fX7_70 fpX7_8 (by decide) rfl (Nat.le_of_ble_eq_true rfl) rfl rfl ?_
                      refine E_aload_n dX7_goWeeks_188 rfl ?_
                      refine E_iload_n dX7_goWeeks_189 rfl ?_
                      refine E_puti (fs2 := [.ref 39, .ref 40, .int (sbu s), .int (nI q), .ref 41, .int (nI n), .ref 42, .int (wF w), .int (nI (wA w)), .int (nI j), .int 0, .int 0, .int (nI (wA w)), .ref 43, .ref 44, .ref 45, .ref 46, .ref 47, .ref 48, .ref 49]) (L2 := [(38, .inr (7, [.ref 39, .ref 40, .int (sbu s), .int (nI q), .ref 41, .int (nI n), .ref 42, .int (wF w), .int (nI (wA w)), .int (nI j), .int 0, .int 0, .int (nI (wA w)), .ref 43, .ref 44, .ref 45, .ref 46, .ref 47, .ref 48, .ref 49])), (39, .inl (false, 22, (bkF s))), (40, .inl (false, 22, (bkF (prS (wS w) 4 (hN (f p)) (f (p + 1) - 97))))), (42, .inl (false, 60, f))]) dX7_goWeeks_190 fX7_73 fpX7_9 (by decide) rfl (Nat.le_of_ble_eq_true rfl) rfl rfl ?_
                      refine E_iinc (y := nI (j + 1)) (l2 := [.ref 38, .int (nI (p + 2)), .int (nI (j + 1)), .int 94]) dX7_goWeeks_193 rfl (nI_1 _) (by decide) rfl ?_
                      refine E_goto (tgt := 156) dX7_goWeeks_196 (by decide) ?_
                      have e9 := ihj
                      rw [nt_t k166 c177] at e9
                      exact e9
              exact LF 0 (by decide)
            · refine E_iload_n dX7_goWeeks_11 rfl ?_
              refine E_aload_n dX7_goWeeks_12 rfl ?_
              refine E_get dX7_goWeeks_13 fX7_60 (by decide) rfl rfl ?_
              refine E_icmp_ge (tgt := 212) dX7_goWeeks_16 (by decide) (fun c => absurd c (nI_ge (by omega) (by omega))) (fun _ => ?_)
              refine E_aload_n dX7_goWeeks_19 rfl ?_
              refine E_iconst (v := 0) dX7_goWeeks_20 (by decide) ?_
              refine E_puti (fs2 := [.ref 39, .ref 40, .int (sbu s), .int (nI q), .ref 41, .int (nI n), .ref 42, .int (wF w), .int (wG w), .int (wH w), .int 0, .int rs, .int (nI (wA w)), .ref 43, .ref 44, .ref 45, .ref 46, .ref 47, .ref 48, .ref 49]) (L2 := [(38, .inr (7, [.ref 39, .ref 40, .int (sbu s), .int (nI q), .ref 41, .int (nI n), .ref 42, .int (wF w), .int (wG w), .int (wH w), .int 0, .int rs, .int (nI (wA w)), .ref 43, .ref 44, .ref 45, .ref 46, .ref 47, .ref 48, .ref 49])), (39, .inl (false, 22, (bkF s))), (40, .inl (false, 22, (bkF (wS w)))), (42, .inl (false, 60, f))]) dX7_goWeeks_21 fX7_90 fpX7_10 (by decide) rfl (Nat.le_of_ble_eq_true rfl) rfl rfl ?_
              refine E_aload_n dX7_goWeeks_24 rfl ?_
              refine E_get dX7_goWeeks_25 fX7_23 (by decide) rfl rfl ?_
              refine E_iload_n dX7_goWeeks_28 rfl ?_
              refine E_ialdN (j := p) dX7_goWeeks_29 (by decide) rfl (by omega) (by decide) ?_
              refine E_bipush (v := 46) dX7_goWeeks_30 (by decide) ?_
              refine E_icmp_ne (tgt := 49) dX7_goWeeks_32 (by decide) (fun _ => ?_) (fun c => absurd c h46)
              refine E_aload_n dX7_goWeeks_49 rfl ?_
              refine E_get dX7_goWeeks_50 fX7_23 (by decide) rfl rfl ?_
              refine E_iload_n dX7_goWeeks_53 rfl ?_
              refine E_ialdN (j := p) dX7_goWeeks_54 (by decide) rfl (by omega) (by decide) ?_
              refine E_bipush (v := 65) dX7_goWeeks_55 (by decide) ?_
              refine E_isub dX7_goWeeks_57 ?_
              refine E_eqi (y := nI (hN (f p))) hh.2.1 ?_
              refine E_istore_n (l2 := [.ref 38, .int (nI p), .int (nI (hN (f p))), l3]) dX7_goWeeks_58 rfl (by decide) rfl ?_
              refine E_aload_n dX7_goWeeks_59 rfl ?_
              refine E_get dX7_goWeeks_60 fX7_23 (by decide) rfl rfl ?_
              refine E_iload_n dX7_goWeeks_63 rfl ?_
              refine E_iconst (v := 1) dX7_goWeeks_64 (by decide) ?_
              refine E_iadd dX7_goWeeks_65 ?_
              refine E_eqi (y := nI (p + 1)) (nI_1 _) ?_
              refine E_ialdN (j := p + 1) dX7_goWeeks_66 (by decide) rfl (by omega) (by decide) ?_
              refine E_eqi (y := 94) hd ?_
              refine E_istore_n (l2 := [.ref 38, .int (nI p), .int (nI (hN (f p))), .int 94]) dX7_goWeeks_67 rfl (by decide) rfl ?_
              refine E_aload_n dX7_goWeeks_68 rfl ?_
              refine E_iload_n dX7_goWeeks_69 rfl ?_
              refine E_bipush (v := 43) dX7_goWeeks_70 (by decide) ?_
              refine E_icmp_ne (tgt := 84) dX7_goWeeks_72 (by decide) (fun _ => ?_) (fun c => by first | exact absurd c (by decide) | exact absurd (by decide) c)
              refine E_iload_n dX7_goWeeks_84 rfl ?_
              refine E_bipush (v := 45) dX7_goWeeks_85 (by decide) ?_
              refine E_icmp_ne (tgt := 99) dX7_goWeeks_87 (by decide) (fun _ => ?_) (fun c => by first | exact absurd c (by decide) | exact absurd (by decide) c)
              refine E_iload_n dX7_goWeeks_99 rfl ?_
              refine E_bipush (v := 42) dX7_goWeeks_100 (by decide) ?_
              refine E_icmp_ne (tgt := 113) dX7_goWeeks_102 (by decide) (fun _ => ?_) (fun c => by first | exact absurd c (by decide) | exact absurd (by decide) c)
              refine E_iload_n dX7_goWeeks_113 rfl ?_
              refine E_bipush (v := 94) dX7_goWeeks_114 (by decide) ?_
              refine E_icmp_ne (tgt := 127) dX7_goWeeks_116 (by decide) (fun c => by first | exact absurd c (by decide) | exact absurd (by decide) c) (fun _ => ?_)
              refine E_aload_n dX7_goWeeks_119 rfl ?_
              refine E_iload_n dX7_goWeeks_120 rfl ?_
              refine E_callV (As := [.int (nI (hN (f p)))]) (l' := [.ref 38, .int (nI (hN (f p)))]) (st := [.ref 38]) dX7_goWeeks_121 kX7_111 iX7_watch vX7_watch (by decide) rfl rfl MX7_watch rfl rfl (Nat.le_of_ble_eq_true rfl) (FC.use (m_watch (d + 3) (sbu s) (wF w) (wG w) (wH w) 0 rs (nI (wA w)) q n (wS w) hok (hN (f p)) hh.1 hbu.symm) rfl (L2 := [(38, .inr (7, [.ref 39, .ref 40, .int (sbu s), .int (nI q), .ref 41, .int (nI n), .ref 42, .int (wF w), .int (wG w), .int (wH w), .int 0, .int rs, .int (nI (wA w)), .ref 43, .ref 44, .ref 45, .ref 46, .ref 47, .ref 48, .ref 49])), (39, .inl (false, 22, (bkF s))), (40, .inl (false, 22, (bkF (nxS (wS w) 4 (hN (f p)) 0)))), (42, .inl (false, 60, f))]) rfl) (Nat.le_of_ble_eq_true rfl) (fun _ _ hq9 => E_fgo ?_ hq9)
              show E _ _ 124 [.ref 38, .int (nI p), .int (nI (hN (f p))), .int 94] [.int (rsn (wS w) 4 (hN (f p)) 0), .ref 38] (hov hp [(38, .inr (7, [.ref 39, .ref 40, .int (sbu s), .int (nI q), .ref 41, .int (nI n), .ref 42, .int (wF w), .int (wG w), .int (wH w), .int 0, .int rs, .int (nI (wA w)), .ref 43, .ref 44, .ref 45, .ref 46, .ref 47, .ref 48, .ref 49])), (39, .inl (false, 22, (bkF s))), (40, .inl (false, 22, (bkF (nxS (wS w) 4 (hN (f p)) 0)))), (42, .inl (false, 60, f))]) _
              refine E_eqi (y := rsn (wS w) 4 (hN (f p)) (f (p + 1) - 97)) rfl ?_
              rw [show nxS (wS w) 4 (hN (f p)) 0 = wS w from nxS_1 hr]
              refine E_goto (tgt := 136) dX7_goWeeks_124 (by decide) ?_
              refine E_puti (fs2 := [.ref 39, .ref 40, .int (sbu s), .int (nI q), .ref 41, .int (nI n), .ref 42, .int (wF w), .int (wG w), .int (wH w), .int 0, .int (rsn (wS w) 4 (hN (f p)) (f (p + 1) - 97)), .int (nI (wA w)), .ref 43, .ref 44, .ref 45, .ref 46, .ref 47, .ref 48, .ref 49]) (L2 := [(38, .inr (7, [.ref 39, .ref 40, .int (sbu s), .int (nI q), .ref 41, .int (nI n), .ref 42, .int (wF w), .int (wG w), .int (wH w), .int 0, .int (rsn (wS w) 4 (hN (f p)) (f (p + 1) - 97)), .int (nI (wA w)), .ref 43, .ref 44, .ref 45, .ref 46, .ref 47, .ref 48, .ref 49])), (39, .inl (false, 22, (bkF s))), (40, .inl (false, 22, (bkF (wS w)))), (42, .inl (false, 60, f))]) dX7_goWeeks_136 fX7_102 fpX7_11 (by decide) rfl (Nat.le_of_ble_eq_true rfl) rfl rfl ?_
              refine E_iinc (y := nI (p + 2)) (l2 := [.ref 38, .int (nI (p + 2)), .int (nI (hN (f p))), .int 94]) dX7_goWeeks_139 rfl (nI_add _ 2) (by decide) rfl ?_
              refine E_aload_n dX7_goWeeks_142 rfl ?_
              refine E_get dX7_goWeeks_143 fX7_102 (by decide) rfl rfl ?_
              refine E_if_le (tgt := 154) dX7_goWeeks_146 (by decide) (fun c => absurd c (rsn_pos hr)) (fun _ => ?_)
              refine E_aload_n dX7_goWeeks_149 rfl ?_
              refine E_get dX7_goWeeks_150 fX7_96 (by decide) rfl rfl ?_
              exact E_iret (st := []) dX7_goWeeks_153 rfl rfl ⟨_, rfl, _, _, by rw [← he, wk_a1 h46 (by rw [hd]; decide) rfl rfl hr], by rw [← he, wk_a1 h46 (by rw [hd]; decide) rfl rfl hr, stA, if_neg hr], fun _ => by rw [← he, wk_a1 h46 (by rw [hd]; decide) rfl rfl hr]⟩
  exact L n 0 (wk0 s) _ _ fr rs (by omega) hf rfl hs rfl (Or.inl rfl) (Nat.le_refl _)
