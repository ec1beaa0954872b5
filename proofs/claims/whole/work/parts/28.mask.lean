/-! the night to ask about -/
theorem ml_at {sn sc : Nat → Int32} {q c n : Nat} (h : ftF sn sc c q = true) (hc : c < 70) : ml (fun k => (fcL (fitB sn sc q) 49).getD k 0) n (gL (fitB sn sc q) (c + 1)).length = (updN (ml (fun k => (fcL (fitB sn sc q) 49).getD k 0) n (gL (fitB sn sc q) c).length).1 (colN c n) ((ml (fun k => (fcL (fitB sn sc q) 49).getD k 0) n (gL (fitB sn sc q) c).length).1 (colN c n) + 1), max (ml (fun k => (fcL (fitB sn sc q) 49).getD k 0) n (gL (fitB sn sc q) c).length).2 ((ml (fun k => (fcL (fitB sn sc q) 49).getD k 0) n (gL (fitB sn sc q) c).length).1 (colN c n) + 1)) := by
  have e := (gL_at h hc).1
  rw [gl_t h]
  generalize (gL (fitB sn sc q) c).length = m at e ⊢
  have g : ∀ (cd : Nat → Nat), cd m = c → ml cd n (m + 1) = (updN (ml cd n m).1 (colN c n) ((ml cd n m).1 (colN c n) + 1), max (ml cd n m).2 ((ml cd n m).1 (colN c n) + 1)) := fun cd hcd => by rw [ml, hcd]
  exact g _ e
/-- the reference's best and least -/
def rkA (cd : Nat → Nat) (m : Nat) : Nat → Int32 × Int32
  | 0 => (-6, 1000000)
  | i + 1 => if nI (ml cd i m).2 ≤ 0 then rkA cd m i else if (rkA cd m i).2 ≤ nI (ml cd i m).2 then rkA cd m i else (nI i, nI (ml cd i m).2)
theorem rkA_a {cd : Nat → Nat} {m i : Nat} (h : nI (ml cd i m).2 ≤ 0) : rkA cd m (i + 1) = rkA cd m i := by rw [rkA, if_pos h]
theorem rkA_b {cd : Nat → Nat} {m i : Nat} (h : (rkA cd m i).2 ≤ nI (ml cd i m).2) : rkA cd m (i + 1) = rkA cd m i := by rw [rkA, if_pos h]; exact ite_self _
theorem rkA_t {cd : Nat → Nat} {m i : Nat} (h1 : ¬ nI (ml cd i m).2 ≤ 0) (h : ¬ (rkA cd m i).2 ≤ nI (ml cd i m).2) : rkA cd m (i + 1) = (nI i, nI (ml cd i m).2) := by rw [rkA, if_neg h1, if_neg h]
theorem rkA_0 {cd : Nat → Nat} {m : Nat} (hm : m = 0) : ∀ i, rkA cd m i = (-6, 1000000)
  | 0 => rfl
  | i + 1 => by
    rw [rkA_a (by rw [hm]; exact Int32.le_refl _)]
    exact rkA_0 hm i
theorem ml_1 {cd : Nat → Nat} {n m : Nat} (hm : 0 < m) : 1 ≤ (ml cd n m).2 := by
  cases m with
  | zero => omega
  | succ m => show 1 ≤ max _ _; omega
theorem rkA_ak {cd : Nat → Nat} {m : Nat} (hm : 0 < m) (hm2 : m ≤ 49) : ∀ i, rkA cd m (i + 1) = ((ak cd m (i + 1)).1, nI (ak cd m (i + 1)).2) ∧ (ak cd m (i + 1)).2 ≤ 49 ∧ ∃ k, k ≤ i ∧ (ak cd m (i + 1)).1 = nI k
  | 0 => by
    have a := ml_1 (cd := cd) (n := 0) hm
    have b := (ml_le (cd := cd) (n := 0) m).2
    rw [rkA_t (by intro h; exact nI_ge (a := 0) a (by omega) h) (by intro h; exact nI_ge (a := (ml cd 0 m).2) (b := 1000000) (by omega) (by decide) h), ak, if_pos (by show _ < 50; omega)]
    exact ⟨rfl, by show (ml cd 0 m).2 ≤ 49; omega, 0, Nat.le_refl _, rfl⟩
  | i + 1 => by
    obtain ⟨e, l, k, hk, e2⟩ := rkA_ak hm hm2 i
    have a := ml_1 (cd := cd) (n := i + 1) hm
    have b := (ml_le (cd := cd) (n := i + 1) m).2
    rw [ak]
    by_cases h : (ml cd (i + 1) m).2 < (ak cd m (i + 1)).2
    · rw [if_pos h, rkA_t (by intro h; exact nI_ge (a := 0) a (by omega) h) (by rw [e]; exact nI_ge h (by omega))]
      exact ⟨rfl, by show (ml cd (i + 1) m).2 ≤ 49; omega, i + 1, Nat.le_refl _, rfl⟩
    · rw [if_neg h, rkA_b (by rw [e]; exact nI_le (by omega) (by omega)), e]
      exact ⟨rfl, l, k, by omega, e2⟩
theorem rkA_21 {cd : Nat → Nat} {m w : Nat} (hw : 1 ≤ w) (hw2 : w ≤ 100) (hm : ¬ m = 0) (hm2 : m ≤ 49) : (rkA cd m w).1 = (ak cd m w).1 ∧ (rkA cd m w).2 = nI (ak cd m w).2 ∧ ¬ (rkA cd m w).1 < 0 := by
  obtain ⟨i, rfl⟩ : ∃ i, w = i + 1 := ⟨w - 1, by omega⟩
  obtain ⟨e, _, k, hk, e2⟩ := rkA_ak (cd := cd) (m := m) (by omega) hm2 i
  by_cases hi : i < 100
  · refine ⟨by rw [e], by rw [e], ?_⟩
    have e3 : (rkA cd m (i + 1)).1 = nI k := by rw [e]; exact e2
    rw [e3]; exact nI_pos (by omega)
  · omega

set_option maxHeartbeats 4000000 in
set_option maxRecDepth 20000 in
theorem m_ask_out (d : Nat) (bu fl fa fw fr rs ac : Int32) (q n : Nat) (v : Int32) (hv : inI v 0 1 = false) : FC YX7_ask (d + 2) [.ref 38, .int v, .null, .null, .null, .null, .null, .null] [(38, .inr (7, [.ref 39, .ref 40, .int bu, .int (nI q), .ref 41, .int (nI n), .ref 42, .int fl, .int fa, .int fw, .int fr, .int rs, .int ac, .ref 43, .ref 44, .ref 45, .ref 46, .ref 47, .ref 48, .ref 49]))] (some (.int (-2))) [(38, .inr (7, [.ref 39, .ref 40, .int bu, .int (nI q), .ref 41, .int (nI n), .ref 42, .int fl, .int fa, .int fw, .int fr, .int rs, .int ac, .ref 43, .ref 44, .ref 45, .ref 46, .ref 47, .ref 48, .ref 49]))] := by
  intro hp
  refine E_iload_n dX7_ask_0 rfl ?_
  refine E_iconst (v := 0) dX7_ask_1 (by decide) ?_
  refine E_iconst (v := 1) dX7_ask_2 (by decide) ?_
  refine E_callS (As := [.int v, .int 0, .int 1]) (l' := [.int v, .int 0, .int 1]) (st := []) dX7_ask_3 kX7_48 sX7_in MX7_in rfl rfl (Nat.le_of_ble_eq_true rfl) (FC.use (c_in (d + 1) _ _ _) rfl (L2 := [(38, .inr (7, [.ref 39, .ref 40, .int bu, .int (nI q), .ref 41, .int (nI n), .ref 42, .int fl, .int fa, .int fw, .int fr, .int rs, .int ac, .ref 43, .ref 44, .ref 45, .ref 46, .ref 47, .ref 48, .ref 49]))]) rfl) (Nat.le_of_ble_eq_true rfl) (fun _ _ hq9 => E_fgo ?_ hq9)
  show E _ _ 6 [.ref 38, .int v, .null, .null, .null, .null, .null, .null] [.int (b2i (inI v 0 1))] (hov hp [(38, .inr (7, [.ref 39, .ref 40, .int bu, .int (nI q), .ref 41, .int (nI n), .ref 42, .int fl, .int fa, .int fw, .int fr, .int rs, .int ac, .ref 43, .ref 44, .ref 45, .ref 46, .ref 47, .ref 48, .ref 49]))]) _
  refine E_if_ne (tgt := 12) dX7_ask_6 (by decide) (fun c => (b2i_x0 hv c).elim) (fun _ => ?_)
  refine E_bipush (v := (-2)) dX7_ask_9 (by decide) ?_
  exact E_iretf dX7_ask_11 rfl rfl rfl rfl

set_option maxHeartbeats 4000000 in
set_option maxRecDepth 20000 in
theorem m_ask_none (d : Nat) (bu fl fa fw fr rs ac : Int32) (q n : Nat) (sn sc cc : Nat → Int32) (hcc : ∀ j, 7 ≤ j → cc j = 0) (hq : q ≤ 8) (v : Int32) (hv : inI v 0 1 = true) (hl : (fcL (fitB sn sc q) 49).length = 0) : FC YX7_ask (d + 2) [.ref 38, .int v, .null, .null, .null, .null, .null, .null] [(38, .inr (7, [.ref 39, .ref 40, .int bu, .int (nI q), .ref 41, .int (nI n), .ref 42, .int fl, .int fa, .int fw, .int fr, .int rs, .int ac, .ref 43, .ref 44, .ref 45, .ref 46, .ref 47, .ref 48, .ref 49])), (41, .inl (false, 16, (sgF sn sc))), (45, .inl (false, 7, cc))] (some (.int (-6))) [(38, .inr (7, [.ref 39, .ref 40, .int bu, .int (nI q), .ref 41, .int (nI n), .ref 42, .int fl, .int fa, .int fw, .int fr, .int rs, .int ac, .ref 43, .ref 44, .ref 45, .ref 46, .ref 47, .ref 48, .ref 49])), (41, .inl (false, 16, (sgF sn sc))), (45, .inl (false, 7, (ccA cc (fun k => (fcL (fitB sn sc q) 49).getD k 0) (fcL (fitB sn sc q) 49).length 21)))] := by
  intro hp
  have hL49 := fcL_len (fitB sn sc q) 49
  have L : ∀ i, i ≤ 21 → ∀ l5 l6 l7 : Value, E YX7_ask (d + 2) 21 [.ref 38, .int v, .int ((rkA (fun k => (fcL (fitB sn sc q) 49).getD k 0) (fcL (fitB sn sc q) 49).length i).1), .int ((rkA (fun k => (fcL (fitB sn sc q) 49).getD k 0) (fcL (fitB sn sc q) 49).length i).2), .int (nI i), l5, l6, l7] [] (hov hp [(38, .inr (7, [.ref 39, .ref 40, .int bu, .int (nI q), .ref 41, .int (nI n), .ref 42, .int fl, .int fa, .int fw, .int fr, .int rs, .int ac, .ref 43, .ref 44, .ref 45, .ref 46, .ref 47, .ref 48, .ref 49])), (41, .inl (false, 16, (sgF sn sc))), (45, .inl (false, 7, (ccA cc (fun k => (fcL (fitB sn sc q) 49).getD k 0) (fcL (fitB sn sc q) 49).length i)))]) (fun v h' => v = some (.int (-6)) ∧ h' = hov hp [(38, .inr (7, [.ref 39, .ref 40, .int bu, .int (nI q), .ref 41, .int (nI n), .ref 42, .int fl, .int fa, .int fw, .int fr, .int rs, .int ac, .ref 43, .ref 44, .ref 45, .ref 46, .ref 47, .ref 48, .ref 49])), (41, .inl (false, 16, (sgF sn sc))), (45, .inl (false, 7, (ccA cc (fun k => (fcL (fitB sn sc q) 49).getD k 0) (fcL (fitB sn sc q) 49).length 21)))]) := by
    refine down 21 ?_ ?_
    · intro l5 l6 l7
      refine E_iload dX7_ask_21 rfl ?_
      refine E_bipush (v := 21) dX7_ask_23 (by decide) ?_
      refine E_icmp_ge (tgt := 174) dX7_ask_25 (by decide) (fun _ => ?_) (fun c => absurd (by decide) c)
      refine E_iload_n dX7_ask_174 rfl ?_
      refine E_if_lt (tgt := 182) dX7_ask_175 (by decide) (fun _ => ?_) (fun c => absurd (by rw [rkA_0 hl]; decide : (rkA (fun k => (fcL (fitB sn sc q) 49).getD k 0) (fcL (fitB sn sc q) 49).length 21).1 < 0) c)
      refine E_iload_n dX7_ask_182 rfl ?_
      refine E_goto (tgt := 187) dX7_ask_183 (by decide) ?_
      exact E_iretf dX7_ask_187 rfl rfl (by rw [rkA_0 hl]) rfl
    · intro n0 hn0 ih l5 l6 l7
      have LC : ∀ c, c ≤ 70 → ∀ l7 : Value, E YX7_ask (d + 2) 58 [.ref 38, .int v, .int ((rkA (fun k => (fcL (fitB sn sc q) 49).getD k 0) (fcL (fitB sn sc q) 49).length n0).1), .int ((rkA (fun k => (fcL (fitB sn sc q) 49).getD k 0) (fcL (fitB sn sc q) 49).length n0).2), .int (nI n0), .int (nI ((ml (fun k => (fcL (fitB sn sc q) 49).getD k 0) n0 (gL (fitB sn sc q) c).length).2)), .int (nI c), l7] [] (hov hp [(38, .inr (7, [.ref 39, .ref 40, .int bu, .int (nI q), .ref 41, .int (nI n), .ref 42, .int fl, .int fa, .int fw, .int fr, .int rs, .int ac, .ref 43, .ref 44, .ref 45, .ref 46, .ref 47, .ref 48, .ref 49])), (41, .inl (false, 16, (sgF sn sc))), (45, .inl (false, 7, (fun j => nI ((ml (fun k => (fcL (fitB sn sc q) 49).getD k 0) n0 (gL (fitB sn sc q) c).length).1 j))))]) (fun v h' => v = some (.int (-6)) ∧ h' = hov hp [(38, .inr (7, [.ref 39, .ref 40, .int bu, .int (nI q), .ref 41, .int (nI n), .ref 42, .int fl, .int fa, .int fw, .int fr, .int rs, .int ac, .ref 43, .ref 44, .ref 45, .ref 46, .ref 47, .ref 48, .ref 49])), (41, .inl (false, 16, (sgF sn sc))), (45, .inl (false, 7, (ccA cc (fun k => (fcL (fitB sn sc q) 49).getD k 0) (fcL (fitB sn sc q) 49).length 21)))]) := by
        refine down 70 ?_ ?_
        · intro l7
          rw [gL_70 rfl]
          refine E_iload dX7_ask_58 rfl ?_
          refine E_bipush (v := 70) dX7_ask_60 (by decide) ?_
          refine E_icmp_ge (tgt := 126) dX7_ask_62 (by decide) (fun _ => ?_) (fun c => absurd (by decide) c)
          refine E_iload dX7_ask_126 rfl ?_
          refine E_if_le (tgt := 141) dX7_ask_128 (by decide) (fun c128 => ?_) (fun c128 => ?_)
          · refine E_iconst (v := 0) dX7_ask_141 (by decide) ?_
            refine E_istore (l2 := [.ref 38, .int v, .int ((rkA (fun k => (fcL (fitB sn sc q) 49).getD k 0) (fcL (fitB sn sc q) 49).length n0).1), .int ((rkA (fun k => (fcL (fitB sn sc q) 49).getD k 0) (fcL (fitB sn sc q) 49).length n0).2), .int (nI n0), .int (nI ((ml (fun k => (fcL (fitB sn sc q) 49).getD k 0) n0 (fcL (fitB sn sc q) 49).length).2)), .int 0, l7]) dX7_ask_142 (by decide) rfl ?_
            refine E_iload dX7_ask_144 rfl ?_
            refine E_if_eq (tgt := 154) dX7_ask_146 (by decide) (fun _ => ?_) (fun c => by first | exact absurd c (by decide) | exact absurd (by decide) c)
            refine E_iload_n dX7_ask_154 rfl ?_
            refine E_istore_n (l2 := [.ref 38, .int v, .int ((rkA (fun k => (fcL (fitB sn sc q) 49).getD k 0) (fcL (fitB sn sc q) 49).length n0).1), .int ((rkA (fun k => (fcL (fitB sn sc q) 49).getD k 0) (fcL (fitB sn sc q) 49).length n0).2), .int (nI n0), .int (nI ((ml (fun k => (fcL (fitB sn sc q) 49).getD k 0) n0 (fcL (fitB sn sc q) 49).length).2)), .int 0, l7]) dX7_ask_155 rfl (by decide) rfl ?_
            refine E_iload dX7_ask_156 rfl ?_
            refine E_if_eq (tgt := 166) dX7_ask_158 (by decide) (fun _ => ?_) (fun c => by first | exact absurd c (by decide) | exact absurd (by decide) c)
            refine E_iload_n dX7_ask_166 rfl ?_
            refine E_istore_n (l2 := [.ref 38, .int v, .int ((rkA (fun k => (fcL (fitB sn sc q) 49).getD k 0) (fcL (fitB sn sc q) 49).length n0).1), .int ((rkA (fun k => (fcL (fitB sn sc q) 49).getD k 0) (fcL (fitB sn sc q) 49).length n0).2), .int (nI n0), .int (nI ((ml (fun k => (fcL (fitB sn sc q) 49).getD k 0) n0 (fcL (fitB sn sc q) 49).length).2)), .int 0, l7]) dX7_ask_167 rfl (by decide) rfl ?_
            refine E_iinc (y := nI (n0 + 1)) (l2 := [.ref 38, .int v, .int ((rkA (fun k => (fcL (fitB sn sc q) 49).getD k 0) (fcL (fitB sn sc q) 49).length n0).1), .int ((rkA (fun k => (fcL (fitB sn sc q) 49).getD k 0) (fcL (fitB sn sc q) 49).length n0).2), .int (nI (n0 + 1)), .int (nI ((ml (fun k => (fcL (fitB sn sc q) 49).getD k 0) n0 (fcL (fitB sn sc q) 49).length).2)), .int 0, l7]) dX7_ask_168 rfl (nI_1 _) (by decide) rfl ?_
            refine E_goto (tgt := 21) dX7_ask_171 (by decide) ?_
            have e9 := ih (.int (nI ((ml (fun k => (fcL (fitB sn sc q) 49).getD k 0) n0 (fcL (fitB sn sc q) 49).length).2))) (.int 0) l7
            rw [rkA_a c128] at e9
            exact e9
          · refine E_iload dX7_ask_131 rfl ?_
            refine E_iload_n dX7_ask_133 rfl ?_
            refine E_icmp_ge (tgt := 141) dX7_ask_134 (by decide) (fun c134 => ?_) (fun c134 => ?_)
            · refine E_iconst (v := 0) dX7_ask_141 (by decide) ?_
              refine E_istore (l2 := [.ref 38, .int v, .int ((rkA (fun k => (fcL (fitB sn sc q) 49).getD k 0) (fcL (fitB sn sc q) 49).length n0).1), .int ((rkA (fun k => (fcL (fitB sn sc q) 49).getD k 0) (fcL (fitB sn sc q) 49).length n0).2), .int (nI n0), .int (nI ((ml (fun k => (fcL (fitB sn sc q) 49).getD k 0) n0 (fcL (fitB sn sc q) 49).length).2)), .int 0, l7]) dX7_ask_142 (by decide) rfl ?_
              refine E_iload dX7_ask_144 rfl ?_
              refine E_if_eq (tgt := 154) dX7_ask_146 (by decide) (fun _ => ?_) (fun c => by first | exact absurd c (by decide) | exact absurd (by decide) c)
              refine E_iload_n dX7_ask_154 rfl ?_
              refine E_istore_n (l2 := [.ref 38, .int v, .int ((rkA (fun k => (fcL (fitB sn sc q) 49).getD k 0) (fcL (fitB sn sc q) 49).length n0).1), .int ((rkA (fun k => (fcL (fitB sn sc q) 49).getD k 0) (fcL (fitB sn sc q) 49).length n0).2), .int (nI n0), .int (nI ((ml (fun k => (fcL (fitB sn sc q) 49).getD k 0) n0 (fcL (fitB sn sc q) 49).length).2)), .int 0, l7]) dX7_ask_155 rfl (by decide) rfl ?_
              refine E_iload dX7_ask_156 rfl ?_
              refine E_if_eq (tgt := 166) dX7_ask_158 (by decide) (fun _ => ?_) (fun c => by first | exact absurd c (by decide) | exact absurd (by decide) c)
              refine E_iload_n dX7_ask_166 rfl ?_
              refine E_istore_n (l2 := [.ref 38, .int v, .int ((rkA (fun k => (fcL (fitB sn sc q) 49).getD k 0) (fcL (fitB sn sc q) 49).length n0).1), .int ((rkA (fun k => (fcL (fitB sn sc q) 49).getD k 0) (fcL (fitB sn sc q) 49).length n0).2), .int (nI n0), .int (nI ((ml (fun k => (fcL (fitB sn sc q) 49).getD k 0) n0 (fcL (fitB sn sc q) 49).length).2)), .int 0, l7]) dX7_ask_167 rfl (by decide) rfl ?_
              refine E_iinc (y := nI (n0 + 1)) (l2 := [.ref 38, .int v, .int ((rkA (fun k => (fcL (fitB sn sc q) 49).getD k 0) (fcL (fitB sn sc q) 49).length n0).1), .int ((rkA (fun k => (fcL (fitB sn sc q) 49).getD k 0) (fcL (fitB sn sc q) 49).length n0).2), .int (nI (n0 + 1)), .int (nI ((ml (fun k => (fcL (fitB sn sc q) 49).getD k 0) n0 (fcL (fitB sn sc q) 49).length).2)), .int 0, l7]) dX7_ask_168 rfl (nI_1 _) (by decide) rfl ?_
              refine E_goto (tgt := 21) dX7_ask_171 (by decide) ?_
              have e9 := ih (.int (nI ((ml (fun k => (fcL (fitB sn sc q) 49).getD k 0) n0 (fcL (fitB sn sc q) 49).length).2))) (.int 0) l7
              rw [rkA_b c134] at e9
              exact e9
            · refine E_iconst (v := 1) dX7_ask_137 (by decide) ?_
              refine E_goto (tgt := 142) dX7_ask_138 (by decide) ?_
              refine E_istore (l2 := [.ref 38, .int v, .int ((rkA (fun k => (fcL (fitB sn sc q) 49).getD k 0) (fcL (fitB sn sc q) 49).length n0).1), .int ((rkA (fun k => (fcL (fitB sn sc q) 49).getD k 0) (fcL (fitB sn sc q) 49).length n0).2), .int (nI n0), .int (nI ((ml (fun k => (fcL (fitB sn sc q) 49).getD k 0) n0 (fcL (fitB sn sc q) 49).length).2)), .int 1, l7]) dX7_ask_142 (by decide) rfl ?_
              refine E_iload dX7_ask_144 rfl ?_
              refine E_if_eq (tgt := 154) dX7_ask_146 (by decide) (fun c => by first | exact absurd c (by decide) | exact absurd (by decide) c) (fun _ => ?_)
              refine E_iload dX7_ask_149 rfl ?_
              refine E_goto (tgt := 155) dX7_ask_151 (by decide) ?_
              refine E_istore_n (l2 := [.ref 38, .int v, .int (nI n0), .int ((rkA (fun k => (fcL (fitB sn sc q) 49).getD k 0) (fcL (fitB sn sc q) 49).length n0).2), .int (nI n0), .int (nI ((ml (fun k => (fcL (fitB sn sc q) 49).getD k 0) n0 (fcL (fitB sn sc q) 49).length).2)), .int 1, l7]) dX7_ask_155 rfl (by decide) rfl ?_
              refine E_iload dX7_ask_156 rfl ?_
              refine E_if_eq (tgt := 166) dX7_ask_158 (by decide) (fun c => by first | exact absurd c (by decide) | exact absurd (by decide) c) (fun _ => ?_)
              refine E_iload dX7_ask_161 rfl ?_
              refine E_goto (tgt := 167) dX7_ask_163 (by decide) ?_
              refine E_istore_n (l2 := [.ref 38, .int v, .int (nI n0), .int (nI ((ml (fun k => (fcL (fitB sn sc q) 49).getD k 0) n0 (fcL (fitB sn sc q) 49).length).2)), .int (nI n0), .int (nI ((ml (fun k => (fcL (fitB sn sc q) 49).getD k 0) n0 (fcL (fitB sn sc q) 49).length).2)), .int 1, l7]) dX7_ask_167 rfl (by decide) rfl ?_
              refine E_iinc (y := nI (n0 + 1)) (l2 := [.ref 38, .int v, .int (nI n0), .int (nI ((ml (fun k => (fcL (fitB sn sc q) 49).getD k 0) n0 (fcL (fitB sn sc q) 49).length).2)), .int (nI (n0 + 1)), .int (nI ((ml (fun k => (fcL (fitB sn sc q) 49).getD k 0) n0 (fcL (fitB sn sc q) 49).length).2)), .int 1, l7]) dX7_ask_168 rfl (nI_1 _) (by decide) rfl ?_
              refine E_goto (tgt := 21) dX7_ask_171 (by decide) ?_
              have e9 := ih (.int (nI ((ml (fun k => (fcL (fitB sn sc q) 49).getD k 0) n0 (fcL (fitB sn sc q) 49).length).2))) (.int 1) l7
              rw [rkA_t c128 c134] at e9
              exact e9
        · intro c hi ihc l7
          have hm1 := ml_le (cd := (fun k => (fcL (fitB sn sc q) 49).getD k 0)) (n := n0) (gL (fitB sn sc q) c).length
          have hgl := gL_le (fitB sn sc q) c
          have hk : colN c n0 < 7 := Nat.mod_lt _ (by decide)
          have hm2 := hm1.1 (colN c n0)
          refine E_iload dX7_ask_58 rfl ?_
          refine E_bipush (v := 70) dX7_ask_60 (by decide) ?_
          refine E_icmp_ge (tgt := 126) dX7_ask_62 (by decide) (fun c => absurd c (cI_nle (n := 70) rfl hi (by decide))) (fun _ => ?_)
          refine E_aload_n dX7_ask_65 rfl ?_
          refine E_iload dX7_ask_66 rfl ?_
          refine E_callV (As := [.int (nI c)]) (l' := [.ref 38, .int (nI c), .null, .null]) (st := []) dX7_ask_68 kX7_137 iX7_isFit vX7_isFit (by decide) rfl rfl MX7_isFit rfl rfl (Nat.le_of_ble_eq_true rfl) (FC.use (m_isFit d bu fl fa fw fr rs ac q n sn sc hq c (by omega)) rfl (L2 := [(38, .inr (7, [.ref 39, .ref 40, .int bu, .int (nI q), .ref 41, .int (nI n), .ref 42, .int fl, .int fa, .int fw, .int fr, .int rs, .int ac, .ref 43, .ref 44, .ref 45, .ref 46, .ref 47, .ref 48, .ref 49])), (41, .inl (false, 16, (sgF sn sc))), (45, .inl (false, 7, (fun j => nI ((ml (fun k => (fcL (fitB sn sc q) 49).getD k 0) n0 (gL (fitB sn sc q) c).length).1 j))))]) rfl) (Nat.le_of_ble_eq_true rfl) (fun _ _ hq9 => E_fgo ?_ hq9)
          show E _ _ 71 [.ref 38, .int v, .int ((rkA (fun k => (fcL (fitB sn sc q) 49).getD k 0) (fcL (fitB sn sc q) 49).length n0).1), .int ((rkA (fun k => (fcL (fitB sn sc q) 49).getD k 0) (fcL (fitB sn sc q) 49).length n0).2), .int (nI n0), .int (nI ((ml (fun k => (fcL (fitB sn sc q) 49).getD k 0) n0 (gL (fitB sn sc q) c).length).2)), .int (nI c), l7] [.int (b2i (ftF sn sc c q))] (hov hp [(38, .inr (7, [.ref 39, .ref 40, .int bu, .int (nI q), .ref 41, .int (nI n), .ref 42, .int fl, .int fa, .int fw, .int fr, .int rs, .int ac, .ref 43, .ref 44, .ref 45, .ref 46, .ref 47, .ref 48, .ref 49])), (41, .inl (false, 16, (sgF sn sc))), (45, .inl (false, 7, (fun j => nI ((ml (fun k => (fcL (fitB sn sc q) 49).getD k 0) n0 (gL (fitB sn sc q) c).length).1 j))))]) _
          refine E_if_eq (tgt := 120) dX7_ask_71 (by decide) (fun c71 => ?_) (fun c71 => ?_)
          · have c71 := b2i_e0 c71
            refine E_iinc (y := nI (c + 1)) (l2 := [.ref 38, .int v, .int ((rkA (fun k => (fcL (fitB sn sc q) 49).getD k 0) (fcL (fitB sn sc q) 49).length n0).1), .int ((rkA (fun k => (fcL (fitB sn sc q) 49).getD k 0) (fcL (fitB sn sc q) 49).length n0).2), .int (nI n0), .int (nI ((ml (fun k => (fcL (fitB sn sc q) 49).getD k 0) n0 (gL (fitB sn sc q) c).length).2)), .int (nI (c + 1)), l7]) dX7_ask_120 rfl (nI_1 _) (by decide) rfl ?_
            refine E_goto (tgt := 58) dX7_ask_123 (by decide) ?_
            have e9 := ihc l7
            rw [gl_f c71] at e9
            exact e9
          · have c71 := b2i_n0 c71
            refine E_iload dX7_ask_74 rfl ?_
            refine E_iload dX7_ask_76 rfl ?_
            refine E_callS (As := [.int (nI c), .int (nI n0)]) (l' := [.int (nI c), .int (nI n0)]) (st := []) dX7_ask_78 kX7_134 sX7_colour MX7_colour rfl rfl (Nat.le_of_ble_eq_true rfl) (FC.use (m_colour (d + 1) c (by omega) (nI n0)) rfl (L2 := [(38, .inr (7, [.ref 39, .ref 40, .int bu, .int (nI q), .ref 41, .int (nI n), .ref 42, .int fl, .int fa, .int fw, .int fr, .int rs, .int ac, .ref 43, .ref 44, .ref 45, .ref 46, .ref 47, .ref 48, .ref 49])), (41, .inl (false, 16, (sgF sn sc))), (45, .inl (false, 7, (fun j => nI ((ml (fun k => (fcL (fitB sn sc q) 49).getD k 0) n0 (gL (fitB sn sc q) c).length).1 j))))]) rfl) (Nat.le_of_ble_eq_true rfl) (fun _ _ hq9 => E_fgo ?_ hq9)
            show E _ _ 81 [.ref 38, .int v, .int ((rkA (fun k => (fcL (fitB sn sc q) 49).getD k 0) (fcL (fitB sn sc q) 49).length n0).1), .int ((rkA (fun k => (fcL (fitB sn sc q) 49).getD k 0) (fcL (fitB sn sc q) 49).length n0).2), .int (nI n0), .int (nI ((ml (fun k => (fcL (fitB sn sc q) 49).getD k 0) n0 (gL (fitB sn sc q) c).length).2)), .int (nI c), l7] [.int (colI (nI (c / 10)) (nI (c % 10)) (nI n0))] (hov hp [(38, .inr (7, [.ref 39, .ref 40, .int bu, .int (nI q), .ref 41, .int (nI n), .ref 42, .int fl, .int fa, .int fw, .int fr, .int rs, .int ac, .ref 43, .ref 44, .ref 45, .ref 46, .ref 47, .ref 48, .ref 49])), (41, .inl (false, 16, (sgF sn sc))), (45, .inl (false, 7, (fun j => nI ((ml (fun k => (fcL (fitB sn sc q) 49).getD k 0) n0 (gL (fitB sn sc q) c).length).1 j))))]) _
            refine E_eqi (y := nI (colN c n0)) (col_N hi (by omega)) ?_
            refine E_istore (l2 := [.ref 38, .int v, .int ((rkA (fun k => (fcL (fitB sn sc q) 49).getD k 0) (fcL (fitB sn sc q) 49).length n0).1), .int ((rkA (fun k => (fcL (fitB sn sc q) 49).getD k 0) (fcL (fitB sn sc q) 49).length n0).2), .int (nI n0), .int (nI ((ml (fun k => (fcL (fitB sn sc q) 49).getD k 0) n0 (gL (fitB sn sc q) c).length).2)), .int (nI c), .int (nI (colN c n0))]) dX7_ask_81 (by decide) rfl ?_
            refine E_aload_n dX7_ask_83 rfl ?_
            refine E_get dX7_ask_84 fX7_32 (by decide) rfl rfl ?_
            refine E_iload dX7_ask_87 rfl ?_
            refine E_dup2 dX7_ask_89 rfl rfl ?_
            refine E_ialdN (j := colN c n0) dX7_ask_90 (by decide) rfl (by omega) (by decide) ?_
            refine E_iconst (v := 1) dX7_ask_91 (by decide) ?_
            refine E_iadd dX7_ask_92 ?_
            refine E_eqi (y := nI ((ml (fun k => (fcL (fitB sn sc q) 49).getD k 0) n0 (gL (fitB sn sc q) c).length).1 (colN c n0) + 1)) (nI_1 _) ?_
            refine E_iastN (j := colN c n0) (f2 := fun j => nI (updN (ml (fun k => (fcL (fitB sn sc q) 49).getD k 0) n0 (gL (fitB sn sc q) c).length).1 (colN c n0) ((ml (fun k => (fcL (fitB sn sc q) 49).getD k 0) n0 (gL (fitB sn sc q) c).length).1 (colN c n0) + 1) j)) (L2 := [(38, .inr (7, [.ref 39, .ref 40, .int bu, .int (nI q), .ref 41, .int (nI n), .ref 42, .int fl, .int fa, .int fw, .int fr, .int rs, .int ac, .ref 43, .ref 44, .ref 45, .ref 46, .ref 47, .ref 48, .ref 49])), (41, .inl (false, 16, (sgF sn sc))), (45, .inl (false, 7, (fun j => nI (updN (ml (fun k => (fcL (fitB sn sc q) 49).getD k 0) n0 (gL (fitB sn sc q) c).length).1 (colN c n0) ((ml (fun k => (fcL (fitB sn sc q) 49).getD k 0) n0 (gL (fitB sn sc q) c).length).1 (colN c n0) + 1) j))))]) dX7_ask_93 (by decide) rfl (by omega) (by decide) (upd_nI _ _ _) rfl ?_
            refine E_aload_n dX7_ask_94 rfl ?_
            refine E_get dX7_ask_95 fX7_32 (by decide) rfl rfl ?_
            refine E_iload dX7_ask_98 rfl ?_
            refine E_ialdN (j := colN c n0) dX7_ask_100 (by decide) rfl (by omega) (by decide) ?_
            refine E_eqi (y := nI ((ml (fun k => (fcL (fitB sn sc q) 49).getD k 0) n0 (gL (fitB sn sc q) c).length).1 (colN c n0) + 1)) (by simp [updN]) ?_
            refine E_iload dX7_ask_101 rfl ?_
            refine E_icmp_le (tgt := 116) dX7_ask_103 (by decide) (fun c103 => ?_) (fun c103 => ?_)
            · have cb := Nat.le_of_not_lt (fun h => nI_ge h (by omega) c103)
              refine E_iload dX7_ask_116 rfl ?_
              refine E_istore (l2 := [.ref 38, .int v, .int ((rkA (fun k => (fcL (fitB sn sc q) 49).getD k 0) (fcL (fitB sn sc q) 49).length n0).1), .int ((rkA (fun k => (fcL (fitB sn sc q) 49).getD k 0) (fcL (fitB sn sc q) 49).length n0).2), .int (nI n0), .int (nI ((ml (fun k => (fcL (fitB sn sc q) 49).getD k 0) n0 (gL (fitB sn sc q) c).length).2)), .int (nI c), .int (nI (colN c n0))]) dX7_ask_118 (by decide) rfl ?_
              refine E_iinc (y := nI (c + 1)) (l2 := [.ref 38, .int v, .int ((rkA (fun k => (fcL (fitB sn sc q) 49).getD k 0) (fcL (fitB sn sc q) 49).length n0).1), .int ((rkA (fun k => (fcL (fitB sn sc q) 49).getD k 0) (fcL (fitB sn sc q) 49).length n0).2), .int (nI n0), .int (nI ((ml (fun k => (fcL (fitB sn sc q) 49).getD k 0) n0 (gL (fitB sn sc q) c).length).2)), .int (nI (c + 1)), .int (nI (colN c n0))]) dX7_ask_120 rfl (nI_1 _) (by decide) rfl ?_
              refine E_goto (tgt := 58) dX7_ask_123 (by decide) ?_
              have e9 := ihc (.int (nI (colN c n0)))
              rw [ml_at c71 hi] at e9
              dsimp only at e9
              rw [Nat.max_eq_left cb] at e9
              exact e9
            · have cb := Nat.lt_of_not_le (fun h => c103 (nI_le h (by omega)))
              refine E_aload_n dX7_ask_106 rfl ?_
              refine E_get dX7_ask_107 fX7_32 (by decide) rfl rfl ?_
              refine E_iload dX7_ask_110 rfl ?_
              refine E_ialdN (j := colN c n0) dX7_ask_112 (by decide) rfl (by omega) (by decide) ?_
              refine E_eqi (y := nI ((ml (fun k => (fcL (fitB sn sc q) 49).getD k 0) n0 (gL (fitB sn sc q) c).length).1 (colN c n0) + 1)) (by simp [updN]) ?_
              refine E_goto (tgt := 118) dX7_ask_113 (by decide) ?_
              refine E_istore (l2 := [.ref 38, .int v, .int ((rkA (fun k => (fcL (fitB sn sc q) 49).getD k 0) (fcL (fitB sn sc q) 49).length n0).1), .int ((rkA (fun k => (fcL (fitB sn sc q) 49).getD k 0) (fcL (fitB sn sc q) 49).length n0).2), .int (nI n0), .int (nI ((ml (fun k => (fcL (fitB sn sc q) 49).getD k 0) n0 (gL (fitB sn sc q) c).length).1 (colN c n0) + 1)), .int (nI c), .int (nI (colN c n0))]) dX7_ask_118 (by decide) rfl ?_
              refine E_iinc (y := nI (c + 1)) (l2 := [.ref 38, .int v, .int ((rkA (fun k => (fcL (fitB sn sc q) 49).getD k 0) (fcL (fitB sn sc q) 49).length n0).1), .int ((rkA (fun k => (fcL (fitB sn sc q) 49).getD k 0) (fcL (fitB sn sc q) 49).length n0).2), .int (nI n0), .int (nI ((ml (fun k => (fcL (fitB sn sc q) 49).getD k 0) n0 (gL (fitB sn sc q) c).length).1 (colN c n0) + 1)), .int (nI (c + 1)), .int (nI (colN c n0))]) dX7_ask_120 rfl (nI_1 _) (by decide) rfl ?_
              refine E_goto (tgt := 58) dX7_ask_123 (by decide) ?_
              have e9 := ihc (.int (nI (colN c n0)))
              rw [ml_at c71 hi] at e9
              dsimp only at e9
              rw [Nat.max_eq_right (Nat.le_of_lt cb)] at e9
              exact e9
      have LZ : ∀ j, j ≤ 7 → E YX7_ask (d + 2) 34 [.ref 38, .int v, .int ((rkA (fun k => (fcL (fitB sn sc q) 49).getD k 0) (fcL (fitB sn sc q) 49).length n0).1), .int ((rkA (fun k => (fcL (fitB sn sc q) 49).getD k 0) (fcL (fitB sn sc q) 49).length n0).2), .int (nI n0), .int 0, .int (nI j), l7] [] (hov hp [(38, .inr (7, [.ref 39, .ref 40, .int bu, .int (nI q), .ref 41, .int (nI n), .ref 42, .int fl, .int fa, .int fw, .int fr, .int rs, .int ac, .ref 43, .ref 44, .ref 45, .ref 46, .ref 47, .ref 48, .ref 49])), (41, .inl (false, 16, (sgF sn sc))), (45, .inl (false, 7, (cpy (ccA cc (fun k => (fcL (fitB sn sc q) 49).getD k 0) (fcL (fitB sn sc q) 49).length n0) (fun _ => 0) j)))]) (fun v h' => v = some (.int (-6)) ∧ h' = hov hp [(38, .inr (7, [.ref 39, .ref 40, .int bu, .int (nI q), .ref 41, .int (nI n), .ref 42, .int fl, .int fa, .int fw, .int fr, .int rs, .int ac, .ref 43, .ref 44, .ref 45, .ref 46, .ref 47, .ref 48, .ref 49])), (41, .inl (false, 16, (sgF sn sc))), (45, .inl (false, 7, (ccA cc (fun k => (fcL (fitB sn sc q) 49).getD k 0) (fcL (fitB sn sc q) 49).length 21)))]) := by
        refine down 7 ?_ ?_
        · refine E_iload dX7_ask_34 rfl ?_
          refine E_bipush (v := 7) dX7_ask_36 (by decide) ?_
          refine E_icmp_ge (tgt := 55) dX7_ask_38 (by decide) (fun _ => ?_) (fun c => absurd (by decide) c)
          refine E_iconst (v := 0) dX7_ask_55 (by decide) ?_
          refine E_istore (l2 := [.ref 38, .int v, .int ((rkA (fun k => (fcL (fitB sn sc q) 49).getD k 0) (fcL (fitB sn sc q) 49).length n0).1), .int ((rkA (fun k => (fcL (fitB sn sc q) 49).getD k 0) (fcL (fitB sn sc q) 49).length n0).2), .int (nI n0), .int 0, .int 0, l7]) dX7_ask_56 (by decide) rfl ?_
          rw [cpy_all (g := fun _ => 0) (ccA_z hcc n0)]
          exact LC 0 (by decide) _
        · intro j hj ihj
          refine E_iload dX7_ask_34 rfl ?_
          refine E_bipush (v := 7) dX7_ask_36 (by decide) ?_
          refine E_icmp_ge (tgt := 55) dX7_ask_38 (by decide) (fun c => absurd c (cI_nle (n := 7) rfl hj (by decide))) (fun _ => ?_)
          refine E_aload_n dX7_ask_41 rfl ?_
          refine E_get dX7_ask_42 fX7_32 (by decide) rfl rfl ?_
          refine E_iload dX7_ask_45 rfl ?_
          refine E_iconst (v := 0) dX7_ask_47 (by decide) ?_
          refine E_iastN (j := j) (f2 := cpy (ccA cc (fun k => (fcL (fitB sn sc q) 49).getD k 0) (fcL (fitB sn sc q) 49).length n0) (fun _ => 0) (j + 1)) (L2 := [(38, .inr (7, [.ref 39, .ref 40, .int bu, .int (nI q), .ref 41, .int (nI n), .ref 42, .int fl, .int fa, .int fw, .int fr, .int rs, .int ac, .ref 43, .ref 44, .ref 45, .ref 46, .ref 47, .ref 48, .ref 49])), (41, .inl (false, 16, (sgF sn sc))), (45, .inl (false, 7, (cpy (ccA cc (fun k => (fcL (fitB sn sc q) 49).getD k 0) (fcL (fitB sn sc q) 49).length n0) (fun _ => 0) (j + 1))))]) dX7_ask_48 (by decide) rfl (by omega) (by decide) (cpy_s _ (fun _ => 0) _) rfl ?_
          refine E_iinc (y := nI (j + 1)) (l2 := [.ref 38, .int v, .int ((rkA (fun k => (fcL (fitB sn sc q) 49).getD k 0) (fcL (fitB sn sc q) 49).length n0).1), .int ((rkA (fun k => (fcL (fitB sn sc q) 49).getD k 0) (fcL (fitB sn sc q) 49).length n0).2), .int (nI n0), .int 0, .int (nI (j + 1)), l7]) dX7_ask_49 rfl (nI_1 _) (by decide) rfl ?_
          refine E_goto (tgt := 34) dX7_ask_52 (by decide) ?_
          exact ihj
      refine E_iload dX7_ask_21 rfl ?_
      refine E_bipush (v := 21) dX7_ask_23 (by decide) ?_
      refine E_icmp_ge (tgt := 174) dX7_ask_25 (by decide) (fun c => absurd c (cI_nle (n := 21) rfl hn0 (by decide))) (fun _ => ?_)
      refine E_iconst (v := 0) dX7_ask_28 (by decide) ?_
      refine E_istore (l2 := [.ref 38, .int v, .int ((rkA (fun k => (fcL (fitB sn sc q) 49).getD k 0) (fcL (fitB sn sc q) 49).length n0).1), .int ((rkA (fun k => (fcL (fitB sn sc q) 49).getD k 0) (fcL (fitB sn sc q) 49).length n0).2), .int (nI n0), .int 0, l6, l7]) dX7_ask_29 (by decide) rfl ?_
      refine E_iconst (v := 0) dX7_ask_31 (by decide) ?_
      refine E_istore (l2 := [.ref 38, .int v, .int ((rkA (fun k => (fcL (fitB sn sc q) 49).getD k 0) (fcL (fitB sn sc q) 49).length n0).1), .int ((rkA (fun k => (fcL (fitB sn sc q) 49).getD k 0) (fcL (fitB sn sc q) 49).length n0).2), .int (nI n0), .int 0, .int 0, l7]) dX7_ask_32 (by decide) rfl ?_
      have e0 := LZ 0 (by decide)
      rw [cpy_0] at e0
      exact e0
  refine E_iload_n dX7_ask_0 rfl ?_
  refine E_iconst (v := 0) dX7_ask_1 (by decide) ?_
  refine E_iconst (v := 1) dX7_ask_2 (by decide) ?_
  refine E_callS (As := [.int v, .int 0, .int 1]) (l' := [.int v, .int 0, .int 1]) (st := []) dX7_ask_3 kX7_48 sX7_in MX7_in rfl rfl (Nat.le_of_ble_eq_true rfl) (FC.use (c_in (d + 1) _ _ _) rfl (L2 := [(38, .inr (7, [.ref 39, .ref 40, .int bu, .int (nI q), .ref 41, .int (nI n), .ref 42, .int fl, .int fa, .int fw, .int fr, .int rs, .int ac, .ref 43, .ref 44, .ref 45, .ref 46, .ref 47, .ref 48, .ref 49])), (41, .inl (false, 16, (sgF sn sc))), (45, .inl (false, 7, cc))]) rfl) (Nat.le_of_ble_eq_true rfl) (fun _ _ hq9 => E_fgo ?_ hq9)
  show E _ _ 6 [.ref 38, .int v, .null, .null, .null, .null, .null, .null] [.int (b2i (inI v 0 1))] (hov hp [(38, .inr (7, [.ref 39, .ref 40, .int bu, .int (nI q), .ref 41, .int (nI n), .ref 42, .int fl, .int fa, .int fw, .int fr, .int rs, .int ac, .ref 43, .ref 44, .ref 45, .ref 46, .ref 47, .ref 48, .ref 49])), (41, .inl (false, 16, (sgF sn sc))), (45, .inl (false, 7, cc))]) _
  refine E_if_ne (tgt := 12) dX7_ask_6 (by decide) (fun _ => ?_) (fun c => (b2i_x1 hv c).elim)
  refine E_bipush (v := (-6)) dX7_ask_12 (by decide) ?_
  refine E_istore_n (l2 := [.ref 38, .int v, .int (-6), .null, .null, .null, .null, .null]) dX7_ask_14 rfl (by decide) rfl ?_
  refine E_ldc dX7_ask_15 qX7_140 ?_
  refine E_istore_n (l2 := [.ref 38, .int v, .int (-6), .int 1000000, .null, .null, .null, .null]) dX7_ask_17 rfl (by decide) rfl ?_
  refine E_iconst (v := 0) dX7_ask_18 (by decide) ?_
  refine E_istore (l2 := [.ref 38, .int v, .int (-6), .int 1000000, .int 0, .null, .null, .null]) dX7_ask_19 (by decide) rfl ?_
  exact L 0 (by decide) _ _ _

set_option maxHeartbeats 4000000 in
set_option maxRecDepth 20000 in
theorem m_ask_0 (d : Nat) (bu fl fa fw fr rs ac : Int32) (q n : Nat) (sn sc cc : Nat → Int32) (hcc : ∀ j, 7 ≤ j → cc j = 0) (hq : q ≤ 8) (hl : ¬ (fcL (fitB sn sc q) 49).length = 0) : FC YX7_ask (d + 2) [.ref 38, .int 0, .null, .null, .null, .null, .null, .null] [(38, .inr (7, [.ref 39, .ref 40, .int bu, .int (nI q), .ref 41, .int (nI n), .ref 42, .int fl, .int fa, .int fw, .int fr, .int rs, .int ac, .ref 43, .ref 44, .ref 45, .ref 46, .ref 47, .ref 48, .ref 49])), (41, .inl (false, 16, (sgF sn sc))), (45, .inl (false, 7, cc))] (some (.int ((ak (fun k => (fcL (fitB sn sc q) 49).getD k 0) (fcL (fitB sn sc q) 49).length 21).1))) [(38, .inr (7, [.ref 39, .ref 40, .int bu, .int (nI q), .ref 41, .int (nI n), .ref 42, .int fl, .int fa, .int fw, .int fr, .int rs, .int ac, .ref 43, .ref 44, .ref 45, .ref 46, .ref 47, .ref 48, .ref 49])), (41, .inl (false, 16, (sgF sn sc))), (45, .inl (false, 7, (ccA cc (fun k => (fcL (fitB sn sc q) 49).getD k 0) (fcL (fitB sn sc q) 49).length 21)))] := by
  intro hp
  have hL49 := fcL_len (fitB sn sc q) 49
  have L : ∀ i, i ≤ 21 → ∀ l5 l6 l7 : Value, E YX7_ask (d + 2) 21 [.ref 38, .int 0, .int ((rkA (fun k => (fcL (fitB sn sc q) 49).getD k 0) (fcL (fitB sn sc q) 49).length i).1), .int ((rkA (fun k => (fcL (fitB sn sc q) 49).getD k 0) (fcL (fitB sn sc q) 49).length i).2), .int (nI i), l5, l6, l7] [] (hov hp [(38, .inr (7, [.ref 39, .ref 40, .int bu, .int (nI q), .ref 41, .int (nI n), .ref 42, .int fl, .int fa, .int fw, .int fr, .int rs, .int ac, .ref 43, .ref 44, .ref 45, .ref 46, .ref 47, .ref 48, .ref 49])), (41, .inl (false, 16, (sgF sn sc))), (45, .inl (false, 7, (ccA cc (fun k => (fcL (fitB sn sc q) 49).getD k 0) (fcL (fitB sn sc q) 49).length i)))]) (fun v h' => v = some (.int ((ak (fun k => (fcL (fitB sn sc q) 49).getD k 0) (fcL (fitB sn sc q) 49).length 21).1)) ∧ h' = hov hp [(38, .inr (7, [.ref 39, .ref 40, .int bu, .int (nI q), .ref 41, .int (nI n), .ref 42, .int fl, .int fa, .int fw, .int fr, .int rs, .int ac, .ref 43, .ref 44, .ref 45, .ref 46, .ref 47, .ref 48, .ref 49])), (41, .inl (false, 16, (sgF sn sc))), (45, .inl (false, 7, (ccA cc (fun k => (fcL (fitB sn sc q) 49).getD k 0) (fcL (fitB sn sc q) 49).length 21)))]) := by
    refine down 21 ?_ ?_
    · intro l5 l6 l7
      refine E_iload dX7_ask_21 rfl ?_
      refine E_bipush (v := 21) dX7_ask_23 (by decide) ?_
      refine E_icmp_ge (tgt := 174) dX7_ask_25 (by decide) (fun _ => ?_) (fun c => absurd (by decide) c)
      refine E_iload_n dX7_ask_174 rfl ?_
      refine E_if_lt (tgt := 182) dX7_ask_175 (by decide) (fun c => absurd c (rkA_21 (by decide) (by decide) hl hL49).2.2) (fun _ => ?_)
      refine E_iload_n dX7_ask_178 rfl ?_
      refine E_if_ne (tgt := 186) dX7_ask_179 (by decide) (fun c => by first | exact absurd c (by decide) | exact absurd (by decide) c) (fun _ => ?_)
      refine E_iload_n dX7_ask_182 rfl ?_
      refine E_goto (tgt := 187) dX7_ask_183 (by decide) ?_
      exact E_iretf dX7_ask_187 rfl rfl ((rkA_21 (by decide) (by decide) hl hL49).1) rfl
    · intro n0 hn0 ih l5 l6 l7
      have LC : ∀ c, c ≤ 70 → ∀ l7 : Value, E YX7_ask (d + 2) 58 [.ref 38, .int 0, .int ((rkA (fun k => (fcL (fitB sn sc q) 49).getD k 0) (fcL (fitB sn sc q) 49).length n0).1), .int ((rkA (fun k => (fcL (fitB sn sc q) 49).getD k 0) (fcL (fitB sn sc q) 49).length n0).2), .int (nI n0), .int (nI ((ml (fun k => (fcL (fitB sn sc q) 49).getD k 0) n0 (gL (fitB sn sc q) c).length).2)), .int (nI c), l7] [] (hov hp [(38, .inr (7, [.ref 39, .ref 40, .int bu, .int (nI q), .ref 41, .int (nI n), .ref 42, .int fl, .int fa, .int fw, .int fr, .int rs, .int ac, .ref 43, .ref 44, .ref 45, .ref 46, .ref 47, .ref 48, .ref 49])), (41, .inl (false, 16, (sgF sn sc))), (45, .inl (false, 7, (fun j => nI ((ml (fun k => (fcL (fitB sn sc q) 49).getD k 0) n0 (gL (fitB sn sc q) c).length).1 j))))]) (fun v h' => v = some (.int ((ak (fun k => (fcL (fitB sn sc q) 49).getD k 0) (fcL (fitB sn sc q) 49).length 21).1)) ∧ h' = hov hp [(38, .inr (7, [.ref 39, .ref 40, .int bu, .int (nI q), .ref 41, .int (nI n), .ref 42, .int fl, .int fa, .int fw, .int fr, .int rs, .int ac, .ref 43, .ref 44, .ref 45, .ref 46, .ref 47, .ref 48, .ref 49])), (41, .inl (false, 16, (sgF sn sc))), (45, .inl (false, 7, (ccA cc (fun k => (fcL (fitB sn sc q) 49).getD k 0) (fcL (fitB sn sc q) 49).length 21)))]) := by
        refine down 70 ?_ ?_
        · intro l7
          rw [gL_70 rfl]
          refine E_iload dX7_ask_58 rfl ?_
          refine E_bipush (v := 70) dX7_ask_60 (by decide) ?_
          refine E_icmp_ge (tgt := 126) dX7_ask_62 (by decide) (fun _ => ?_) (fun c => absurd (by decide) c)
          refine E_iload dX7_ask_126 rfl ?_
          refine E_if_le (tgt := 141) dX7_ask_128 (by decide) (fun c128 => ?_) (fun c128 => ?_)
          · refine E_iconst (v := 0) dX7_ask_141 (by decide) ?_
            refine E_istore (l2 := [.ref 38, .int 0, .int ((rkA (fun k => (fcL (fitB sn sc q) 49).getD k 0) (fcL (fitB sn sc q) 49).length n0).1), .int ((rkA (fun k => (fcL (fitB sn sc q) 49).getD k 0) (fcL (fitB sn sc q) 49).length n0).2), .int (nI n0), .int (nI ((ml (fun k => (fcL (fitB sn sc q) 49).getD k 0) n0 (fcL (fitB sn sc q) 49).length).2)), .int 0, l7]) dX7_ask_142 (by decide) rfl ?_
            refine E_iload dX7_ask_144 rfl ?_
            refine E_if_eq (tgt := 154) dX7_ask_146 (by decide) (fun _ => ?_) (fun c => by first | exact absurd c (by decide) | exact absurd (by decide) c)
            refine E_iload_n dX7_ask_154 rfl ?_
            refine E_istore_n (l2 := [.ref 38, .int 0, .int ((rkA (fun k => (fcL (fitB sn sc q) 49).getD k 0) (fcL (fitB sn sc q) 49).length n0).1), .int ((rkA (fun k => (fcL (fitB sn sc q) 49).getD k 0) (fcL (fitB sn sc q) 49).length n0).2), .int (nI n0), .int (nI ((ml (fun k => (fcL (fitB sn sc q) 49).getD k 0) n0 (fcL (fitB sn sc q) 49).length).2)), .int 0, l7]) dX7_ask_155 rfl (by decide) rfl ?_
            refine E_iload dX7_ask_156 rfl ?_
            refine E_if_eq (tgt := 166) dX7_ask_158 (by decide) (fun _ => ?_) (fun c => by first | exact absurd c (by decide) | exact absurd (by decide) c)
            refine E_iload_n dX7_ask_166 rfl ?_
            refine E_istore_n (l2 := [.ref 38, .int 0, .int ((rkA (fun k => (fcL (fitB sn sc q) 49).getD k 0) (fcL (fitB sn sc q) 49).length n0).1), .int ((rkA (fun k => (fcL (fitB sn sc q) 49).getD k 0) (fcL (fitB sn sc q) 49).length n0).2), .int (nI n0), .int (nI ((ml (fun k => (fcL (fitB sn sc q) 49).getD k 0) n0 (fcL (fitB sn sc q) 49).length).2)), .int 0, l7]) dX7_ask_167 rfl (by decide) rfl ?_
            refine E_iinc (y := nI (n0 + 1)) (l2 := [.ref 38, .int 0, .int ((rkA (fun k => (fcL (fitB sn sc q) 49).getD k 0) (fcL (fitB sn sc q) 49).length n0).1), .int ((rkA (fun k => (fcL (fitB sn sc q) 49).getD k 0) (fcL (fitB sn sc q) 49).length n0).2), .int (nI (n0 + 1)), .int (nI ((ml (fun k => (fcL (fitB sn sc q) 49).getD k 0) n0 (fcL (fitB sn sc q) 49).length).2)), .int 0, l7]) dX7_ask_168 rfl (nI_1 _) (by decide) rfl ?_
            refine E_goto (tgt := 21) dX7_ask_171 (by decide) ?_
            have e9 := ih (.int (nI ((ml (fun k => (fcL (fitB sn sc q) 49).getD k 0) n0 (fcL (fitB sn sc q) 49).length).2))) (.int 0) l7
            rw [rkA_a c128] at e9
            exact e9
          · refine E_iload dX7_ask_131 rfl ?_
            refine E_iload_n dX7_ask_133 rfl ?_
            refine E_icmp_ge (tgt := 141) dX7_ask_134 (by decide) (fun c134 => ?_) (fun c134 => ?_)
            · refine E_iconst (v := 0) dX7_ask_141 (by decide) ?_
              refine E_istore (l2 := [.ref 38, .int 0, .int ((rkA (fun k => (fcL (fitB sn sc q) 49).getD k 0) (fcL (fitB sn sc q) 49).length n0).1), .int ((rkA (fun k => (fcL (fitB sn sc q) 49).getD k 0) (fcL (fitB sn sc q) 49).length n0).2), .int (nI n0), .int (nI ((ml (fun k => (fcL (fitB sn sc q) 49).getD k 0) n0 (fcL (fitB sn sc q) 49).length).2)), .int 0, l7]) dX7_ask_142 (by decide) rfl ?_
              refine E_iload dX7_ask_144 rfl ?_
              refine E_if_eq (tgt := 154) dX7_ask_146 (by decide) (fun _ => ?_) (fun c => by first | exact absurd c (by decide) | exact absurd (by decide) c)
              refine E_iload_n dX7_ask_154 rfl ?_
              refine E_istore_n (l2 := [.ref 38, .int 0, .int ((rkA (fun k => (fcL (fitB sn sc q) 49).getD k 0) (fcL (fitB sn sc q) 49).length n0).1), .int ((rkA (fun k => (fcL (fitB sn sc q) 49).getD k 0) (fcL (fitB sn sc q) 49).length n0).2), .int (nI n0), .int (nI ((ml (fun k => (fcL (fitB sn sc q) 49).getD k 0) n0 (fcL (fitB sn sc q) 49).length).2)), .int 0, l7]) dX7_ask_155 rfl (by decide) rfl ?_
              refine E_iload dX7_ask_156 rfl ?_
              refine E_if_eq (tgt := 166) dX7_ask_158 (by decide) (fun _ => ?_) (fun c => by first | exact absurd c (by decide) | exact absurd (by decide) c)
              refine E_iload_n dX7_ask_166 rfl ?_
              refine E_istore_n (l2 := [.ref 38, .int 0, .int ((rkA (fun k => (fcL (fitB sn sc q) 49).getD k 0) (fcL (fitB sn sc q) 49).length n0).1), .int ((rkA (fun k => (fcL (fitB sn sc q) 49).getD k 0) (fcL (fitB sn sc q) 49).length n0).2), .int (nI n0), .int (nI ((ml (fun k => (fcL (fitB sn sc q) 49).getD k 0) n0 (fcL (fitB sn sc q) 49).length).2)), .int 0, l7]) dX7_ask_167 rfl (by decide) rfl ?_
              refine E_iinc (y := nI (n0 + 1)) (l2 := [.ref 38, .int 0, .int ((rkA (fun k => (fcL (fitB sn sc q) 49).getD k 0) (fcL (fitB sn sc q) 49).length n0).1), .int ((rkA (fun k => (fcL (fitB sn sc q) 49).getD k 0) (fcL (fitB sn sc q) 49).length n0).2), .int (nI (n0 + 1)), .int (nI ((ml (fun k => (fcL (fitB sn sc q) 49).getD k 0) n0 (fcL (fitB sn sc q) 49).length).2)), .int 0, l7]) dX7_ask_168 rfl (nI_1 _) (by decide) rfl ?_
              refine E_goto (tgt := 21) dX7_ask_171 (by decide) ?_
              have e9 := ih (.int (nI ((ml (fun k => (fcL (fitB sn sc q) 49).getD k 0) n0 (fcL (fitB sn sc q) 49).length).2))) (.int 0) l7
              rw [rkA_b c134] at e9
              exact e9
            · refine E_iconst (v := 1) dX7_ask_137 (by decide) ?_
              refine E_goto (tgt := 142) dX7_ask_138 (by decide) ?_
              refine E_istore (l2 := [.ref 38, .int 0, .int ((rkA (fun k => (fcL (fitB sn sc q) 49).getD k 0) (fcL (fitB sn sc q) 49).length n0).1), .int ((rkA (fun k => (fcL (fitB sn sc q) 49).getD k 0) (fcL (fitB sn sc q) 49).length n0).2), .int (nI n0), .int (nI ((ml (fun k => (fcL (fitB sn sc q) 49).getD k 0) n0 (fcL (fitB sn sc q) 49).length).2)), .int 1, l7]) dX7_ask_142 (by decide) rfl ?_
              refine E_iload dX7_ask_144 rfl ?_
              refine E_if_eq (tgt := 154) dX7_ask_146 (by decide) (fun c => by first | exact absurd c (by decide) | exact absurd (by decide) c) (fun _ => ?_)
              refine E_iload dX7_ask_149 rfl ?_
              refine E_goto (tgt := 155) dX7_ask_151 (by decide) ?_
              refine E_istore_n (l2 := [.ref 38, .int 0, .int (nI n0), .int ((rkA (fun k => (fcL (fitB sn sc q) 49).getD k 0) (fcL (fitB sn sc q) 49).length n0).2), .int (nI n0), .int (nI ((ml (fun k => (fcL (fitB sn sc q) 49).getD k 0) n0 (fcL (fitB sn sc q) 49).length).2)), .int 1, l7]) dX7_ask_155 rfl (by decide) rfl ?_
              refine E_iload dX7_ask_156 rfl ?_
              refine E_if_eq (tgt := 166) dX7_ask_158 (by decide) (fun c => by first | exact absurd c (by decide) | exact absurd (by decide) c) (fun _ => ?_)
              refine E_iload dX7_ask_161 rfl ?_
              refine E_goto (tgt := 167) dX7_ask_163 (by decide) ?_
              refine E_istore_n (l2 := [.ref 38, .int 0, .int (nI n0), .int (nI ((ml (fun k => (fcL (fitB sn sc q) 49).getD k 0) n0 (fcL (fitB sn sc q) 49).length).2)), .int (nI n0), .int (nI ((ml (fun k => (fcL (fitB sn sc q) 49).getD k 0) n0 (fcL (fitB sn sc q) 49).length).2)), .int 1, l7]) dX7_ask_167 rfl (by decide) rfl ?_
              refine E_iinc (y := nI (n0 + 1)) (l2 := [.ref 38, .int 0, .int (nI n0), .int (nI ((ml (fun k => (fcL (fitB sn sc q) 49).getD k 0) n0 (fcL (fitB sn sc q) 49).length).2)), .int (nI (n0 + 1)), .int (nI ((ml (fun k => (fcL (fitB sn sc q) 49).getD k 0) n0 (fcL (fitB sn sc q) 49).length).2)), .int 1, l7]) dX7_ask_168 rfl (nI_1 _) (by decide) rfl ?_
              refine E_goto (tgt := 21) dX7_ask_171 (by decide) ?_
              have e9 := ih (.int (nI ((ml (fun k => (fcL (fitB sn sc q) 49).getD k 0) n0 (fcL (fitB sn sc q) 49).length).2))) (.int 1) l7
              rw [rkA_t c128 c134] at e9
              exact e9
        · intro c hi ihc l7
          have hm1 := ml_le (cd := (fun k => (fcL (fitB sn sc q) 49).getD k 0)) (n := n0) (gL (fitB sn sc q) c).length
          have hgl := gL_le (fitB sn sc q) c
          have hk : colN c n0 < 7 := Nat.mod_lt _ (by decide)
          have hm2 := hm1.1 (colN c n0)
          refine E_iload dX7_ask_58 rfl ?_
          refine E_bipush (v := 70) dX7_ask_60 (by decide) ?_
          refine E_icmp_ge (tgt := 126) dX7_ask_62 (by decide) (fun c => absurd c (cI_nle (n := 70) rfl hi (by decide))) (fun _ => ?_)
          refine E_aload_n dX7_ask_65 rfl ?_
          refine E_iload dX7_ask_66 rfl ?_
          refine E_callV (As := [.int (nI c)]) (l' := [.ref 38, .int (nI c), .null, .null]) (st := []) dX7_ask_68 kX7_137 iX7_isFit vX7_isFit (by decide) rfl rfl MX7_isFit rfl rfl (Nat.le_of_ble_eq_true rfl) (FC.use (m_isFit d bu fl fa fw fr rs ac q n sn sc hq c (by omega)) rfl (L2 := [(38, .inr (7, [.ref 39, .ref 40, .int bu, .int (nI q), .ref 41, .int (nI n), .ref 42, .int fl, .int fa, .int fw, .int fr, .int rs, .int ac, .ref 43, .ref 44, .ref 45, .ref 46, .ref 47, .ref 48, .ref 49])), (41, .inl (false, 16, (sgF sn sc))), (45, .inl (false, 7, (fun j => nI ((ml (fun k => (fcL (fitB sn sc q) 49).getD k 0) n0 (gL (fitB sn sc q) c).length).1 j))))]) rfl) (Nat.le_of_ble_eq_true rfl) (fun _ _ hq9 => E_fgo ?_ hq9)
          show E _ _ 71 [.ref 38, .int 0, .int ((rkA (fun k => (fcL (fitB sn sc q) 49).getD k 0) (fcL (fitB sn sc q) 49).length n0).1), .int ((rkA (fun k => (fcL (fitB sn sc q) 49).getD k 0) (fcL (fitB sn sc q) 49).length n0).2), .int (nI n0), .int (nI ((ml (fun k => (fcL (fitB sn sc q) 49).getD k 0) n0 (gL (fitB sn sc q) c).length).2)), .int (nI c), l7] [.int (b2i (ftF sn sc c q))] (hov hp [(38, .inr (7, [.ref 39, .ref 40, .int bu, .int (nI q), .ref 41, .int (nI n), .ref 42, .int fl, .int fa, .int fw, .int fr, .int rs, .int ac, .ref 43, .ref 44, .ref 45, .ref 46, .ref 47, .ref 48, .ref 49])), (41, .inl (false, 16, (sgF sn sc))), (45, .inl (false, 7, (fun j => nI ((ml (fun k => (fcL (fitB sn sc q) 49).getD k 0) n0 (gL (fitB sn sc q) c).length).1 j))))]) _
          refine E_if_eq (tgt := 120) dX7_ask_71 (by decide) (fun c71 => ?_) (fun c71 => ?_)
          · have c71 := b2i_e0 c71
            refine E_iinc (y := nI (c + 1)) (l2 := [.ref 38, .int 0, .int ((rkA (fun k => (fcL (fitB sn sc q) 49).getD k 0) (fcL (fitB sn sc q) 49).length n0).1), .int ((rkA (fun k => (fcL (fitB sn sc q) 49).getD k 0) (fcL (fitB sn sc q) 49).length n0).2), .int (nI n0), .int (nI ((ml (fun k => (fcL (fitB sn sc q) 49).getD k 0) n0 (gL (fitB sn sc q) c).length).2)), .int (nI (c + 1)), l7]) dX7_ask_120 rfl (nI_1 _) (by decide) rfl ?_
            refine E_goto (tgt := 58) dX7_ask_123 (by decide) ?_
            have e9 := ihc l7
            rw [gl_f c71] at e9
            exact e9
          · have c71 := b2i_n0 c71
            refine E_iload dX7_ask_74 rfl ?_
            refine E_iload dX7_ask_76 rfl ?_
            refine E_callS (As := [.int (nI c), .int (nI n0)]) (l' := [.int (nI c), .int (nI n0)]) (st := []) dX7_ask_78 kX7_134 sX7_colour MX7_colour rfl rfl (Nat.le_of_ble_eq_true rfl) (FC.use (m_colour (d + 1) c (by omega) (nI n0)) rfl (L2 := [(38, .inr (7, [.ref 39, .ref 40, .int bu, .int (nI q), .ref 41, .int (nI n), .ref 42, .int fl, .int fa, .int fw, .int fr, .int rs, .int ac, .ref 43, .ref 44, .ref 45, .ref 46, .ref 47, .ref 48, .ref 49])), (41, .inl (false, 16, (sgF sn sc))), (45, .inl (false, 7, (fun j => nI ((ml (fun k => (fcL (fitB sn sc q) 49).getD k 0) n0 (gL (fitB sn sc q) c).length).1 j))))]) rfl) (Nat.le_of_ble_eq_true rfl) (fun _ _ hq9 => E_fgo ?_ hq9)
            show E _ _ 81 [.ref 38, .int 0, .int ((rkA (fun k => (fcL (fitB sn sc q) 49).getD k 0) (fcL (fitB sn sc q) 49).length n0).1), .int ((rkA (fun k => (fcL (fitB sn sc q) 49).getD k 0) (fcL (fitB sn sc q) 49).length n0).2), .int (nI n0), .int (nI ((ml (fun k => (fcL (fitB sn sc q) 49).getD k 0) n0 (gL (fitB sn sc q) c).length).2)), .int (nI c), l7] [.int (colI (nI (c / 10)) (nI (c % 10)) (nI n0))] (hov hp [(38, .inr (7, [.ref 39, .ref 40, .int bu, .int (nI q), .ref 41, .int (nI n), .ref 42, .int fl, .int fa, .int fw, .int fr, .int rs, .int ac, .ref 43, .ref 44, .ref 45, .ref 46, .ref 47, .ref 48, .ref 49])), (41, .inl (false, 16, (sgF sn sc))), (45, .inl (false, 7, (fun j => nI ((ml (fun k => (fcL (fitB sn sc q) 49).getD k 0) n0 (gL (fitB sn sc q) c).length).1 j))))]) _
            refine E_eqi (y := nI (colN c n0)) (col_N hi (by omega)) ?_
            refine E_istore (l2 := [.ref 38, .int 0, .int ((rkA (fun k => (fcL (fitB sn sc q) 49).getD k 0) (fcL (fitB sn sc q) 49).length n0).1), .int ((rkA (fun k => (fcL (fitB sn sc q) 49).getD k 0) (fcL (fitB sn sc q) 49).length n0).2), .int (nI n0), .int (nI ((ml (fun k => (fcL (fitB sn sc q) 49).getD k 0) n0 (gL (fitB sn sc q) c).length).2)), .int (nI c), .int (nI (colN c n0))]) dX7_ask_81 (by decide) rfl ?_
            refine E_aload_n dX7_ask_83 rfl ?_
            refine E_get dX7_ask_84 fX7_32 (by decide) rfl rfl ?_
            refine E_iload dX7_ask_87 rfl ?_
            refine E_dup2 dX7_ask_89 rfl rfl ?_
            refine E_ialdN (j := colN c n0) dX7_ask_90 (by decide) rfl (by omega) (by decide) ?_
            refine E_iconst (v := 1) dX7_ask_91 (by decide) ?_
            refine E_iadd dX7_ask_92 ?_
            refine E_eqi (y := nI ((ml (fun k => (fcL (fitB sn sc q) 49).getD k 0) n0 (gL (fitB sn sc q) c).length).1 (colN c n0) + 1)) (nI_1 _) ?_
            refine E_iastN (j := colN c n0) (f2 := fun j => nI (updN (ml (fun k => (fcL (fitB sn sc q) 49).getD k 0) n0 (gL (fitB sn sc q) c).length).1 (colN c n0) ((ml (fun k => (fcL (fitB sn sc q) 49).getD k 0) n0 (gL (fitB sn sc q) c).length).1 (colN c n0) + 1) j)) (L2 := [(38, .inr (7, [.ref 39, .ref 40, .int bu, .int (nI q), .ref 41, .int (nI n), .ref 42, .int fl, .int fa, .int fw, .int fr, .int rs, .int ac, .ref 43, .ref 44, .ref 45, .ref 46, .ref 47, .ref 48, .ref 49])), (41, .inl (false, 16, (sgF sn sc))), (45, .inl (false, 7, (fun j => nI (updN (ml (fun k => (fcL (fitB sn sc q) 49).getD k 0) n0 (gL (fitB sn sc q) c).length).1 (colN c n0) ((ml (fun k => (fcL (fitB sn sc q) 49).getD k 0) n0 (gL (fitB sn sc q) c).length).1 (colN c n0) + 1) j))))]) dX7_ask_93 (by decide) rfl (by omega) (by decide) (upd_nI _ _ _) rfl ?_
            refine E_aload_n dX7_ask_94 rfl ?_
            refine E_get dX7_ask_95 fX7_32 (by decide) rfl rfl ?_
            refine E_iload dX7_ask_98 rfl ?_
            refine E_ialdN (j := colN c n0) dX7_ask_100 (by decide) rfl (by omega) (by decide) ?_
            refine E_eqi (y := nI ((ml (fun k => (fcL (fitB sn sc q) 49).getD k 0) n0 (gL (fitB sn sc q) c).length).1 (colN c n0) + 1)) (by simp [updN]) ?_
            refine E_iload dX7_ask_101 rfl ?_
            refine E_icmp_le (tgt := 116) dX7_ask_103 (by decide) (fun c103 => ?_) (fun c103 => ?_)
            · have cb := Nat.le_of_not_lt (fun h => nI_ge h (by omega) c103)
              refine E_iload dX7_ask_116 rfl ?_
              refine E_istore (l2 := [.ref 38, .int 0, .int ((rkA (fun k => (fcL (fitB sn sc q) 49).getD k 0) (fcL (fitB sn sc q) 49).length n0).1), .int ((rkA (fun k => (fcL (fitB sn sc q) 49).getD k 0) (fcL (fitB sn sc q) 49).length n0).2), .int (nI n0), .int (nI ((ml (fun k => (fcL (fitB sn sc q) 49).getD k 0) n0 (gL (fitB sn sc q) c).length).2)), .int (nI c), .int (nI (colN c n0))]) dX7_ask_118 (by decide) rfl ?_
              refine E_iinc (y := nI (c + 1)) (l2 := [.ref 38, .int 0, .int ((rkA (fun k => (fcL (fitB sn sc q) 49).getD k 0) (fcL (fitB sn sc q) 49).length n0).1), .int ((rkA (fun k => (fcL (fitB sn sc q) 49).getD k 0) (fcL (fitB sn sc q) 49).length n0).2), .int (nI n0), .int (nI ((ml (fun k => (fcL (fitB sn sc q) 49).getD k 0) n0 (gL (fitB sn sc q) c).length).2)), .int (nI (c + 1)), .int (nI (colN c n0))]) dX7_ask_120 rfl (nI_1 _) (by decide) rfl ?_
              refine E_goto (tgt := 58) dX7_ask_123 (by decide) ?_
              have e9 := ihc (.int (nI (colN c n0)))
              rw [ml_at c71 hi] at e9
              dsimp only at e9
              rw [Nat.max_eq_left cb] at e9
              exact e9
            · have cb := Nat.lt_of_not_le (fun h => c103 (nI_le h (by omega)))
              refine E_aload_n dX7_ask_106 rfl ?_
              refine E_get dX7_ask_107 fX7_32 (by decide) rfl rfl ?_
              refine E_iload dX7_ask_110 rfl ?_
              refine E_ialdN (j := colN c n0) dX7_ask_112 (by decide) rfl (by omega) (by decide) ?_
              refine E_eqi (y := nI ((ml (fun k => (fcL (fitB sn sc q) 49).getD k 0) n0 (gL (fitB sn sc q) c).length).1 (colN c n0) + 1)) (by simp [updN]) ?_
              refine E_goto (tgt := 118) dX7_ask_113 (by decide) ?_
              refine E_istore (l2 := [.ref 38, .int 0, .int ((rkA (fun k => (fcL (fitB sn sc q) 49).getD k 0) (fcL (fitB sn sc q) 49).length n0).1), .int ((rkA (fun k => (fcL (fitB sn sc q) 49).getD k 0) (fcL (fitB sn sc q) 49).length n0).2), .int (nI n0), .int (nI ((ml (fun k => (fcL (fitB sn sc q) 49).getD k 0) n0 (gL (fitB sn sc q) c).length).1 (colN c n0) + 1)), .int (nI c), .int (nI (colN c n0))]) dX7_ask_118 (by decide) rfl ?_
              refine E_iinc (y := nI (c + 1)) (l2 := [.ref 38, .int 0, .int ((rkA (fun k => (fcL (fitB sn sc q) 49).getD k 0) (fcL (fitB sn sc q) 49).length n0).1), .int ((rkA (fun k => (fcL (fitB sn sc q) 49).getD k 0) (fcL (fitB sn sc q) 49).length n0).2), .int (nI n0), .int (nI ((ml (fun k => (fcL (fitB sn sc q) 49).getD k 0) n0 (gL (fitB sn sc q) c).length).1 (colN c n0) + 1)), .int (nI (c + 1)), .int (nI (colN c n0))]) dX7_ask_120 rfl (nI_1 _) (by decide) rfl ?_
              refine E_goto (tgt := 58) dX7_ask_123 (by decide) ?_
              have e9 := ihc (.int (nI (colN c n0)))
              rw [ml_at c71 hi] at e9
              dsimp only at e9
              rw [Nat.max_eq_right (Nat.le_of_lt cb)] at e9
              exact e9
      have LZ : ∀ j, j ≤ 7 → E YX7_ask (d + 2) 34 [.ref 38, .int 0, .int ((rkA (fun k => (fcL (fitB sn sc q) 49).getD k 0) (fcL (fitB sn sc q) 49).length n0).1), .int ((rkA (fun k => (fcL (fitB sn sc q) 49).getD k 0) (fcL (fitB sn sc q) 49).length n0).2), .int (nI n0), .int 0, .int (nI j), l7] [] (hov hp [(38, .inr (7, [.ref 39, .ref 40, .int bu, .int (nI q), .ref 41, .int (nI n), .ref 42, .int fl, .int fa, .int fw, .int fr, .int rs, .int ac, .ref 43, .ref 44, .ref 45, .ref 46, .ref 47, .ref 48, .ref 49])), (41, .inl (false, 16, (sgF sn sc))), (45, .inl (false, 7, (cpy (ccA cc (fun k => (fcL (fitB sn sc q) 49).getD k 0) (fcL (fitB sn sc q) 49).length n0) (fun _ => 0) j)))]) (fun v h' => v = some (.int ((ak (fun k => (fcL (fitB sn sc q) 49).getD k 0) (fcL (fitB sn sc q) 49).length 21).1)) ∧ h' = hov hp [(38, .inr (7, [.ref 39, .ref 40, .int bu, .int (nI q), .ref 41, .int (nI n), .ref 42, .int fl, .int fa, .int fw, .int fr, .int rs, .int ac, .ref 43, .ref 44, .ref 45, .ref 46, .ref 47, .ref 48, .ref 49])), (41, .inl (false, 16, (sgF sn sc))), (45, .inl (false, 7, (ccA cc (fun k => (fcL (fitB sn sc q) 49).getD k 0) (fcL (fitB sn sc q) 49).length 21)))]) := by
        refine down 7 ?_ ?_
        · refine E_iload dX7_ask_34 rfl ?_
          refine E_bipush (v := 7) dX7_ask_36 (by decide) ?_
          refine E_icmp_ge (tgt := 55) dX7_ask_38 (by decide) (fun _ => ?_) (fun c => absurd (by decide) c)
          refine E_iconst (v := 0) dX7_ask_55 (by decide) ?_
          refine E_istore (l2 := [.ref 38, .int 0, .int ((rkA (fun k => (fcL (fitB sn sc q) 49).getD k 0) (fcL (fitB sn sc q) 49).length n0).1), .int ((rkA (fun k => (fcL (fitB sn sc q) 49).getD k 0) (fcL (fitB sn sc q) 49).length n0).2), .int (nI n0), .int 0, .int 0, l7]) dX7_ask_56 (by decide) rfl ?_
          rw [cpy_all (g := fun _ => 0) (ccA_z hcc n0)]
          exact LC 0 (by decide) _
        · intro j hj ihj
          refine E_iload dX7_ask_34 rfl ?_
          refine E_bipush (v := 7) dX7_ask_36 (by decide) ?_
          refine E_icmp_ge (tgt := 55) dX7_ask_38 (by decide) (fun c => absurd c (cI_nle (n := 7) rfl hj (by decide))) (fun _ => ?_)
          refine E_aload_n dX7_ask_41 rfl ?_
          refine E_get dX7_ask_42 fX7_32 (by decide) rfl rfl ?_
          refine E_iload dX7_ask_45 rfl ?_
          refine E_iconst (v := 0) dX7_ask_47 (by decide) ?_
          refine E_iastN (j := j) (f2 := cpy (ccA cc (fun k => (fcL (fitB sn sc q) 49).getD k 0) (fcL (fitB sn sc q) 49).length n0) (fun _ => 0) (j + 1)) (L2 := [(38, .inr (7, [.ref 39, .ref 40, .int bu, .int (nI q), .ref 41, .int (nI n), .ref 42, .int fl, .int fa, .int fw, .int fr, .int rs, .int ac, .ref 43, .ref 44, .ref 45, .ref 46, .ref 47, .ref 48, .ref 49])), (41, .inl (false, 16, (sgF sn sc))), (45, .inl (false, 7, (cpy (ccA cc (fun k => (fcL (fitB sn sc q) 49).getD k 0) (fcL (fitB sn sc q) 49).length n0) (fun _ => 0) (j + 1))))]) dX7_ask_48 (by decide) rfl (by omega) (by decide) (cpy_s _ (fun _ => 0) _) rfl ?_
          refine E_iinc (y := nI (j + 1)) (l2 := [.ref 38, .int 0, .int ((rkA (fun k => (fcL (fitB sn sc q) 49).getD k 0) (fcL (fitB sn sc q) 49).length n0).1), .int ((rkA (fun k => (fcL (fitB sn sc q) 49).getD k 0) (fcL (fitB sn sc q) 49).length n0).2), .int (nI n0), .int 0, .int (nI (j + 1)), l7]) dX7_ask_49 rfl (nI_1 _) (by decide) rfl ?_
          refine E_goto (tgt := 34) dX7_ask_52 (by decide) ?_
          exact ihj
      refine E_iload dX7_ask_21 rfl ?_
      refine E_bipush (v := 21) dX7_ask_23 (by decide) ?_
      refine E_icmp_ge (tgt := 174) dX7_ask_25 (by decide) (fun c => absurd c (cI_nle (n := 21) rfl hn0 (by decide))) (fun _ => ?_)
      refine E_iconst (v := 0) dX7_ask_28 (by decide) ?_
      refine E_istore (l2 := [.ref 38, .int 0, .int ((rkA (fun k => (fcL (fitB sn sc q) 49).getD k 0) (fcL (fitB sn sc q) 49).length n0).1), .int ((rkA (fun k => (fcL (fitB sn sc q) 49).getD k 0) (fcL (fitB sn sc q) 49).length n0).2), .int (nI n0), .int 0, l6, l7]) dX7_ask_29 (by decide) rfl ?_
      refine E_iconst (v := 0) dX7_ask_31 (by decide) ?_
      refine E_istore (l2 := [.ref 38, .int 0, .int ((rkA (fun k => (fcL (fitB sn sc q) 49).getD k 0) (fcL (fitB sn sc q) 49).length n0).1), .int ((rkA (fun k => (fcL (fitB sn sc q) 49).getD k 0) (fcL (fitB sn sc q) 49).length n0).2), .int (nI n0), .int 0, .int 0, l7]) dX7_ask_32 (by decide) rfl ?_
      have e0 := LZ 0 (by decide)
      rw [cpy_0] at e0
      exact e0
  refine E_iload_n dX7_ask_0 rfl ?_
  refine E_iconst (v := 0) dX7_ask_1 (by decide) ?_
  refine E_iconst (v := 1) dX7_ask_2 (by decide) ?_
  refine E_callS (As := [.int 0, .int 0, .int 1]) (l' := [.int 0, .int 0, .int 1]) (st := []) dX7_ask_3 kX7_48 sX7_in MX7_in rfl rfl (Nat.le_of_ble_eq_true rfl) (FC.use (c_in (d + 1) _ _ _) rfl (L2 := [(38, .inr (7, [.ref 39, .ref 40, .int bu, .int (nI q), .ref 41, .int (nI n), .ref 42, .int fl, .int fa, .int fw, .int fr, .int rs, .int ac, .ref 43, .ref 44, .ref 45, .ref 46, .ref 47, .ref 48, .ref 49])), (41, .inl (false, 16, (sgF sn sc))), (45, .inl (false, 7, cc))]) rfl) (Nat.le_of_ble_eq_true rfl) (fun _ _ hq9 => E_fgo ?_ hq9)
  show E _ _ 6 [.ref 38, .int 0, .null, .null, .null, .null, .null, .null] [.int (b2i (inI 0 0 1))] (hov hp [(38, .inr (7, [.ref 39, .ref 40, .int bu, .int (nI q), .ref 41, .int (nI n), .ref 42, .int fl, .int fa, .int fw, .int fr, .int rs, .int ac, .ref 43, .ref 44, .ref 45, .ref 46, .ref 47, .ref 48, .ref 49])), (41, .inl (false, 16, (sgF sn sc))), (45, .inl (false, 7, cc))]) _
  refine E_if_ne (tgt := 12) dX7_ask_6 (by decide) (fun _ => ?_) (fun c => (b2i_x1 (by decide) c).elim)
  refine E_bipush (v := (-6)) dX7_ask_12 (by decide) ?_
  refine E_istore_n (l2 := [.ref 38, .int 0, .int (-6), .null, .null, .null, .null, .null]) dX7_ask_14 rfl (by decide) rfl ?_
  refine E_ldc dX7_ask_15 qX7_140 ?_
  refine E_istore_n (l2 := [.ref 38, .int 0, .int (-6), .int 1000000, .null, .null, .null, .null]) dX7_ask_17 rfl (by decide) rfl ?_
  refine E_iconst (v := 0) dX7_ask_18 (by decide) ?_
  refine E_istore (l2 := [.ref 38, .int 0, .int (-6), .int 1000000, .int 0, .null, .null, .null]) dX7_ask_19 (by decide) rfl ?_
  exact L 0 (by decide) _ _ _

set_option maxHeartbeats 4000000 in
set_option maxRecDepth 20000 in
theorem m_ask_1 (d : Nat) (bu fl fa fw fr rs ac : Int32) (q n : Nat) (sn sc cc : Nat → Int32) (hcc : ∀ j, 7 ≤ j → cc j = 0) (hq : q ≤ 8) (hl : ¬ (fcL (fitB sn sc q) 49).length = 0) : FC YX7_ask (d + 2) [.ref 38, .int 1, .null, .null, .null, .null, .null, .null] [(38, .inr (7, [.ref 39, .ref 40, .int bu, .int (nI q), .ref 41, .int (nI n), .ref 42, .int fl, .int fa, .int fw, .int fr, .int rs, .int ac, .ref 43, .ref 44, .ref 45, .ref 46, .ref 47, .ref 48, .ref 49])), (41, .inl (false, 16, (sgF sn sc))), (45, .inl (false, 7, cc))] (some (.int (nI ((ak (fun k => (fcL (fitB sn sc q) 49).getD k 0) (fcL (fitB sn sc q) 49).length 21).2)))) [(38, .inr (7, [.ref 39, .ref 40, .int bu, .int (nI q), .ref 41, .int (nI n), .ref 42, .int fl, .int fa, .int fw, .int fr, .int rs, .int ac, .ref 43, .ref 44, .ref 45, .ref 46, .ref 47, .ref 48, .ref 49])), (41, .inl (false, 16, (sgF sn sc))), (45, .inl (false, 7, (ccA cc (fun k => (fcL (fitB sn sc q) 49).getD k 0) (fcL (fitB sn sc q) 49).length 21)))] := by
  intro hp
  have hL49 := fcL_len (fitB sn sc q) 49
  have L : ∀ i, i ≤ 21 → ∀ l5 l6 l7 : Value, E YX7_ask (d + 2) 21 [.ref 38, .int 1, .int ((rkA (fun k => (fcL (fitB sn sc q) 49).getD k 0) (fcL (fitB sn sc q) 49).length i).1), .int ((rkA (fun k => (fcL (fitB sn sc q) 49).getD k 0) (fcL (fitB sn sc q) 49).length i).2), .int (nI i), l5, l6, l7] [] (hov hp [(38, .inr (7, [.ref 39, .ref 40, .int bu, .int (nI q), .ref 41, .int (nI n), .ref 42, .int fl, .int fa, .int fw, .int fr, .int rs, .int ac, .ref 43, .ref 44, .ref 45, .ref 46, .ref 47, .ref 48, .ref 49])), (41, .inl (false, 16, (sgF sn sc))), (45, .inl (false, 7, (ccA cc (fun k => (fcL (fitB sn sc q) 49).getD k 0) (fcL (fitB sn sc q) 49).length i)))]) (fun v h' => v = some (.int (nI ((ak (fun k => (fcL (fitB sn sc q) 49).getD k 0) (fcL (fitB sn sc q) 49).length 21).2))) ∧ h' = hov hp [(38, .inr (7, [.ref 39, .ref 40, .int bu, .int (nI q), .ref 41, .int (nI n), .ref 42, .int fl, .int fa, .int fw, .int fr, .int rs, .int ac, .ref 43, .ref 44, .ref 45, .ref 46, .ref 47, .ref 48, .ref 49])), (41, .inl (false, 16, (sgF sn sc))), (45, .inl (false, 7, (ccA cc (fun k => (fcL (fitB sn sc q) 49).getD k 0) (fcL (fitB sn sc q) 49).length 21)))]) := by
    refine down 21 ?_ ?_
    · intro l5 l6 l7
      refine E_iload dX7_ask_21 rfl ?_
      refine E_bipush (v := 21) dX7_ask_23 (by decide) ?_
      refine E_icmp_ge (tgt := 174) dX7_ask_25 (by decide) (fun _ => ?_) (fun c => absurd (by decide) c)
      refine E_iload_n dX7_ask_174 rfl ?_
      refine E_if_lt (tgt := 182) dX7_ask_175 (by decide) (fun c => absurd c (rkA_21 (by decide) (by decide) hl hL49).2.2) (fun _ => ?_)
      refine E_iload_n dX7_ask_178 rfl ?_
      refine E_if_ne (tgt := 186) dX7_ask_179 (by decide) (fun _ => ?_) (fun c => by first | exact absurd c (by decide) | exact absurd (by decide) c)
      refine E_iload_n dX7_ask_186 rfl ?_
      exact E_iretf dX7_ask_187 rfl rfl ((rkA_21 (by decide) (by decide) hl hL49).2.1) rfl
    · intro n0 hn0 ih l5 l6 l7
      have LC : ∀ c, c ≤ 70 → ∀ l7 : Value, E YX7_ask (d + 2) 58 [.ref 38, .int 1, .int ((rkA (fun k => (fcL (fitB sn sc q) 49).getD k 0) (fcL (fitB sn sc q) 49).length n0).1), .int ((rkA (fun k => (fcL (fitB sn sc q) 49).getD k 0) (fcL (fitB sn sc q) 49).length n0).2), .int (nI n0), .int (nI ((ml (fun k => (fcL (fitB sn sc q) 49).getD k 0) n0 (gL (fitB sn sc q) c).length).2)), .int (nI c), l7] [] (hov hp [(38, .inr (7, [.ref 39, .ref 40, .int bu, .int (nI q), .ref 41, .int (nI n), .ref 42, .int fl, .int fa, .int fw, .int fr, .int rs, .int ac, .ref 43, .ref 44, .ref 45, .ref 46, .ref 47, .ref 48, .ref 49])), (41, .inl (false, 16, (sgF sn sc))), (45, .inl (false, 7, (fun j => nI ((ml (fun k => (fcL (fitB sn sc q) 49).getD k 0) n0 (gL (fitB sn sc q) c).length).1 j))))]) (fun v h' => v = some (.int (nI ((ak (fun k => (fcL (fitB sn sc q) 49).getD k 0) (fcL (fitB sn sc q) 49).length 21).2))) ∧ h' = hov hp [(38, .inr (7, [.ref 39, .ref 40, .int bu, .int (nI q), .ref 41, .int (nI n), .ref 42, .int fl, .int fa, .int fw, .int fr, .int rs, .int ac, .ref 43, .ref 44, .ref 45, .ref 46, .ref 47, .ref 48, .ref 49])), (41, .inl (false, 16, (sgF sn sc))), (45, .inl (false, 7, (ccA cc (fun k => (fcL (fitB sn sc q) 49).getD k 0) (fcL (fitB sn sc q) 49).length 21)))]) := by
        refine down 70 ?_ ?_
        · intro l7
          rw [gL_70 rfl]
          refine E_iload dX7_ask_58 rfl ?_
          refine E_bipush (v := 70) dX7_ask_60 (by decide) ?_
          refine E_icmp_ge (tgt := 126) dX7_ask_62 (by decide) (fun _ => ?_) (fun c => absurd (by decide) c)
          refine E_iload dX7_ask_126 rfl ?_
          refine E_if_le (tgt := 141) dX7_ask_128 (by decide) (fun c128 => ?_) (fun c128 => ?_)
          · refine E_iconst (v := 0) dX7_ask_141 (by decide) ?_
            refine E_istore (l2 := [.ref 38, .int 1, .int ((rkA (fun k => (fcL (fitB sn sc q) 49).getD k 0) (fcL (fitB sn sc q) 49).length n0).1), .int ((rkA (fun k => (fcL (fitB sn sc q) 49).getD k 0) (fcL (fitB sn sc q) 49).length n0).2), .int (nI n0), .int (nI ((ml (fun k => (fcL (fitB sn sc q) 49).getD k 0) n0 (fcL (fitB sn sc q) 49).length).2)), .int 0, l7]) dX7_ask_142 (by decide) rfl ?_
            refine E_iload dX7_ask_144 rfl ?_
            refine E_if_eq (tgt := 154) dX7_ask_146 (by decide) (fun _ => ?_) (fun c => by first | exact absurd c (by decide) | exact absurd (by decide) c)
            refine E_iload_n dX7_ask_154 rfl ?_
            refine E_istore_n (l2 := [.ref 38, .int 1, .int ((rkA (fun k => (fcL (fitB sn sc q) 49).getD k 0) (fcL (fitB sn sc q) 49).length n0).1), .int ((rkA (fun k => (fcL (fitB sn sc q) 49).getD k 0) (fcL (fitB sn sc q) 49).length n0).2), .int (nI n0), .int (nI ((ml (fun k => (fcL (fitB sn sc q) 49).getD k 0) n0 (fcL (fitB sn sc q) 49).length).2)), .int 0, l7]) dX7_ask_155 rfl (by decide) rfl ?_
            refine E_iload dX7_ask_156 rfl ?_
            refine E_if_eq (tgt := 166) dX7_ask_158 (by decide) (fun _ => ?_) (fun c => by first | exact absurd c (by decide) | exact absurd (by decide) c)
            refine E_iload_n dX7_ask_166 rfl ?_
            refine E_istore_n (l2 := [.ref 38, .int 1, .int ((rkA (fun k => (fcL (fitB sn sc q) 49).getD k 0) (fcL (fitB sn sc q) 49).length n0).1), .int ((rkA (fun k => (fcL (fitB sn sc q) 49).getD k 0) (fcL (fitB sn sc q) 49).length n0).2), .int (nI n0), .int (nI ((ml (fun k => (fcL (fitB sn sc q) 49).getD k 0) n0 (fcL (fitB sn sc q) 49).length).2)), .int 0, l7]) dX7_ask_167 rfl (by decide) rfl ?_
            refine E_iinc (y := nI (n0 + 1)) (l2 := [.ref 38, .int 1, .int ((rkA (fun k => (fcL (fitB sn sc q) 49).getD k 0) (fcL (fitB sn sc q) 49).length n0).1), .int ((rkA (fun k => (fcL (fitB sn sc q) 49).getD k 0) (fcL (fitB sn sc q) 49).length n0).2), .int (nI (n0 + 1)), .int (nI ((ml (fun k => (fcL (fitB sn sc q) 49).getD k 0) n0 (fcL (fitB sn sc q) 49).length).2)), .int 0, l7]) dX7_ask_168 rfl (nI_1 _) (by decide) rfl ?_
            refine E_goto (tgt := 21) dX7_ask_171 (by decide) ?_
            have e9 := ih (.int (nI ((ml (fun k => (fcL (fitB sn sc q) 49).getD k 0) n0 (fcL (fitB sn sc q) 49).length).2))) (.int 0) l7
            rw [rkA_a c128] at e9
            exact e9
          · refine E_iload dX7_ask_131 rfl ?_
            refine E_iload_n dX7_ask_133 rfl ?_
            refine E_icmp_ge (tgt := 141) dX7_ask_134 (by decide) (fun c134 => ?_) (fun c134 => ?_)
            · refine E_iconst (v := 0) dX7_ask_141 (by decide) ?_
              refine E_istore (l2 := [.ref 38, .int 1, .int ((rkA (fun k => (fcL (fitB sn sc q) 49).getD k 0) (fcL (fitB sn sc q) 49).length n0).1), .int ((rkA (fun k => (fcL (fitB sn sc q) 49).getD k 0) (fcL (fitB sn sc q) 49).length n0).2), .int (nI n0), .int (nI ((ml (fun k => (fcL (fitB sn sc q) 49).getD k 0) n0 (fcL (fitB sn sc q) 49).length).2)), .int 0, l7]) dX7_ask_142 (by decide) rfl ?_
              refine E_iload dX7_ask_144 rfl ?_
              refine E_if_eq (tgt := 154) dX7_ask_146 (by decide) (fun _ => ?_) (fun c => by first | exact absurd c (by decide) | exact absurd (by decide) c)
              refine E_iload_n dX7_ask_154 rfl ?_
              refine E_istore_n (l2 := [.ref 38, .int 1, .int ((rkA (fun k => (fcL (fitB sn sc q) 49).getD k 0) (fcL (fitB sn sc q) 49).length n0).1), .int ((rkA (fun k => (fcL (fitB sn sc q) 49).getD k 0) (fcL (fitB sn sc q) 49).length n0).2), .int (nI n0), .int (nI ((ml (fun k => (fcL (fitB sn sc q) 49).getD k 0) n0 (fcL (fitB sn sc q) 49).length).2)), .int 0, l7]) dX7_ask_155 rfl (by decide) rfl ?_
              refine E_iload dX7_ask_156 rfl ?_
              refine E_if_eq (tgt := 166) dX7_ask_158 (by decide) (fun _ => ?_) (fun c => by first | exact absurd c (by decide) | exact absurd (by decide) c)
              refine E_iload_n dX7_ask_166 rfl ?_
              refine E_istore_n (l2 := [.ref 38, .int 1, .int ((rkA (fun k => (fcL (fitB sn sc q) 49).getD k 0) (fcL (fitB sn sc q) 49).length n0).1), .int ((rkA (fun k => (fcL (fitB sn sc q) 49).getD k 0) (fcL (fitB sn sc q) 49).length n0).2), .int (nI n0), .int (nI ((ml (fun k => (fcL (fitB sn sc q) 49).getD k 0) n0 (fcL (fitB sn sc q) 49).length).2)), .int 0, l7]) dX7_ask_167 rfl (by decide) rfl ?_
              refine E_iinc (y := nI (n0 + 1)) (l2 := [.ref 38, .int 1, .int ((rkA (fun k => (fcL (fitB sn sc q) 49).getD k 0) (fcL (fitB sn sc q) 49).length n0).1), .int ((rkA (fun k => (fcL (fitB sn sc q) 49).getD k 0) (fcL (fitB sn sc q) 49).length n0).2), .int (nI (n0 + 1)), .int (nI ((ml (fun k => (fcL (fitB sn sc q) 49).getD k 0) n0 (fcL (fitB sn sc q) 49).length).2)), .int 0, l7]) dX7_ask_168 rfl (nI_1 _) (by decide) rfl ?_
              refine E_goto (tgt := 21) dX7_ask_171 (by decide) ?_
              have e9 := ih (.int (nI ((ml (fun k => (fcL (fitB sn sc q) 49).getD k 0) n0 (fcL (fitB sn sc q) 49).length).2))) (.int 0) l7
              rw [rkA_b c134] at e9
              exact e9
            · refine E_iconst (v := 1) dX7_ask_137 (by decide) ?_
              refine E_goto (tgt := 142) dX7_ask_138 (by decide) ?_
              refine E_istore (l2 := [.ref 38, .int 1, .int ((rkA (fun k => (fcL (fitB sn sc q) 49).getD k 0) (fcL (fitB sn sc q) 49).length n0).1), .int ((rkA (fun k => (fcL (fitB sn sc q) 49).getD k 0) (fcL (fitB sn sc q) 49).length n0).2), .int (nI n0), .int (nI ((ml (fun k => (fcL (fitB sn sc q) 49).getD k 0) n0 (fcL (fitB sn sc q) 49).length).2)), .int 1, l7]) dX7_ask_142 (by decide) rfl ?_
              refine E_iload dX7_ask_144 rfl ?_
              refine E_if_eq (tgt := 154) dX7_ask_146 (by decide) (fun c => by first | exact absurd c (by decide) | exact absurd (by decide) c) (fun _ => ?_)
              refine E_iload dX7_ask_149 rfl ?_
              refine E_goto (tgt := 155) dX7_ask_151 (by decide) ?_
              refine E_istore_n (l2 := [.ref 38, .int 1, .int (nI n0), .int ((rkA (fun k => (fcL (fitB sn sc q) 49).getD k 0) (fcL (fitB sn sc q) 49).length n0).2), .int (nI n0), .int (nI ((ml (fun k => (fcL (fitB sn sc q) 49).getD k 0) n0 (fcL (fitB sn sc q) 49).length).2)), .int 1, l7]) dX7_ask_155 rfl (by decide) rfl ?_
              refine E_iload dX7_ask_156 rfl ?_
              refine E_if_eq (tgt := 166) dX7_ask_158 (by decide) (fun c => by first | exact absurd c (by decide) | exact absurd (by decide) c) (fun _ => ?_)
              refine E_iload dX7_ask_161 rfl ?_
              refine E_goto (tgt := 167) dX7_ask_163 (by decide) ?_
              refine E_istore_n (l2 := [.ref 38, .int 1, .int (nI n0), .int (nI ((ml (fun k => (fcL (fitB sn sc q) 49).getD k 0) n0 (fcL (fitB sn sc q) 49).length).2)), .int (nI n0), .int (nI ((ml (fun k => (fcL (fitB sn sc q) 49).getD k 0) n0 (fcL (fitB sn sc q) 49).length).2)), .int 1, l7]) dX7_ask_167 rfl (by decide) rfl ?_
              refine E_iinc (y := nI (n0 + 1)) (l2 := [.ref 38, .int 1, .int (nI n0), .int (nI ((ml (fun k => (fcL (fitB sn sc q) 49).getD k 0) n0 (fcL (fitB sn sc q) 49).length).2)), .int (nI (n0 + 1)), .int (nI ((ml (fun k => (fcL (fitB sn sc q) 49).getD k 0) n0 (fcL (fitB sn sc q) 49).length).2)), .int 1, l7]) dX7_ask_168 rfl (nI_1 _) (by decide) rfl ?_
              refine E_goto (tgt := 21) dX7_ask_171 (by decide) ?_
              have e9 := ih (.int (nI ((ml (fun k => (fcL (fitB sn sc q) 49).getD k 0) n0 (fcL (fitB sn sc q) 49).length).2))) (.int 1) l7
              rw [rkA_t c128 c134] at e9
              exact e9
        · intro c hi ihc l7
          have hm1 := ml_le (cd := (fun k => (fcL (fitB sn sc q) 49).getD k 0)) (n := n0) (gL (fitB sn sc q) c).length
          have hgl := gL_le (fitB sn sc q) c
          have hk : colN c n0 < 7 := Nat.mod_lt _ (by decide)
          have hm2 := hm1.1 (colN c n0)
          refine E_iload dX7_ask_58 rfl ?_
          refine E_bipush (v := 70) dX7_ask_60 (by decide) ?_
          refine E_icmp_ge (tgt := 126) dX7_ask_62 (by decide) (fun c => absurd c (cI_nle (n := 70) rfl hi (by decide))) (fun _ => ?_)
          refine E_aload_n dX7_ask_65 rfl ?_
          refine E_iload dX7_ask_66 rfl ?_
          refine E_callV (As := [.int (nI c)]) (l' := [.ref 38, .int (nI c), .null, .null]) (st := []) dX7_ask_68 kX7_137 iX7_isFit vX7_isFit (by decide) rfl rfl MX7_isFit rfl rfl (Nat.le_of_ble_eq_true rfl) (FC.use (m_isFit d bu fl fa fw fr rs ac q n sn sc hq c (by omega)) rfl (L2 := [(38, .inr (7, [.ref 39, .ref 40, .int bu, .int (nI q), .ref 41, .int (nI n), .ref 42, .int fl, .int fa, .int fw, .int fr, .int rs, .int ac, .ref 43, .ref 44, .ref 45, .ref 46, .ref 47, .ref 48, .ref 49])), (41, .inl (false, 16, (sgF sn sc))), (45, .inl (false, 7, (fun j => nI ((ml (fun k => (fcL (fitB sn sc q) 49).getD k 0) n0 (gL (fitB sn sc q) c).length).1 j))))]) rfl) (Nat.le_of_ble_eq_true rfl) (fun _ _ hq9 => E_fgo ?_ hq9)
          show E _ _ 71 [.ref 38, .int 1, .int ((rkA (fun k => (fcL (fitB sn sc q) 49).getD k 0) (fcL (fitB sn sc q) 49).length n0).1), .int ((rkA (fun k => (fcL (fitB sn sc q) 49).getD k 0) (fcL (fitB sn sc q) 49).length n0).2), .int (nI n0), .int (nI ((ml (fun k => (fcL (fitB sn sc q) 49).getD k 0) n0 (gL (fitB sn sc q) c).length).2)), .int (nI c), l7] [.int (b2i (ftF sn sc c q))] (hov hp [(38, .inr (7, [.ref 39, .ref 40, .int bu, .int (nI q), .ref 41, .int (nI n), .ref 42, .int fl, .int fa, .int fw, .int fr, .int rs, .int ac, .ref 43, .ref 44, .ref 45, .ref 46, .ref 47, .ref 48, .ref 49])), (41, .inl (false, 16, (sgF sn sc))), (45, .inl (false, 7, (fun j => nI ((ml (fun k => (fcL (fitB sn sc q) 49).getD k 0) n0 (gL (fitB sn sc q) c).length).1 j))))]) _
          refine E_if_eq (tgt := 120) dX7_ask_71 (by decide) (fun c71 => ?_) (fun c71 => ?_)
          · have c71 := b2i_e0 c71
            refine E_iinc (y := nI (c + 1)) (l2 := [.ref 38, .int 1, .int ((rkA (fun k => (fcL (fitB sn sc q) 49).getD k 0) (fcL (fitB sn sc q) 49).length n0).1), .int ((rkA (fun k => (fcL (fitB sn sc q) 49).getD k 0) (fcL (fitB sn sc q) 49).length n0).2), .int (nI n0), .int (nI ((ml (fun k => (fcL (fitB sn sc q) 49).getD k 0) n0 (gL (fitB sn sc q) c).length).2)), .int (nI (c + 1)), l7]) dX7_ask_120 rfl (nI_1 _) (by decide) rfl ?_
            refine E_goto (tgt := 58) dX7_ask_123 (by decide) ?_
            have e9 := ihc l7
            rw [gl_f c71] at e9
            exact e9
          · have c71 := b2i_n0 c71
            refine E_iload dX7_ask_74 rfl ?_
            refine E_iload dX7_ask_76 rfl ?_
            refine E_callS (As := [.int (nI c), .int (nI n0)]) (l' := [.int (nI c), .int (nI n0)]) (st := []) dX7_ask_78 kX7_134 sX7_colour MX7_colour rfl rfl (Nat.le_of_ble_eq_true rfl) (FC.use (m_colour (d + 1) c (by omega) (nI n0)) rfl (L2 := [(38, .inr (7, [.ref 39, .ref 40, .int bu, .int (nI q), .ref 41, .int (nI n), .ref 42, .int fl, .int fa, .int fw, .int fr, .int rs, .int ac, .ref 43, .ref 44, .ref 45, .ref 46, .ref 47, .ref 48, .ref 49])), (41, .inl (false, 16, (sgF sn sc))), (45, .inl (false, 7, (fun j => nI ((ml (fun k => (fcL (fitB sn sc q) 49).getD k 0) n0 (gL (fitB sn sc q) c).length).1 j))))]) rfl) (Nat.le_of_ble_eq_true rfl) (fun _ _ hq9 => E_fgo ?_ hq9)
            show E _ _ 81 [.ref 38, .int 1, .int ((rkA (fun k => (fcL (fitB sn sc q) 49).getD k 0) (fcL (fitB sn sc q) 49).length n0).1), .int ((rkA (fun k => (fcL (fitB sn sc q) 49).getD k 0) (fcL (fitB sn sc q) 49).length n0).2), .int (nI n0), .int (nI ((ml (fun k => (fcL (fitB sn sc q) 49).getD k 0) n0 (gL (fitB sn sc q) c).length).2)), .int (nI c), l7] [.int (colI (nI (c / 10)) (nI (c % 10)) (nI n0))] (hov hp [(38, .inr (7, [.ref 39, .ref 40, .int bu, .int (nI q), .ref 41, .int (nI n), .ref 42, .int fl, .int fa, .int fw, .int fr, .int rs, .int ac, .ref 43, .ref 44, .ref 45, .ref 46, .ref 47, .ref 48, .ref 49])), (41, .inl (false, 16, (sgF sn sc))), (45, .inl (false, 7, (fun j => nI ((ml (fun k => (fcL (fitB sn sc q) 49).getD k 0) n0 (gL (fitB sn sc q) c).length).1 j))))]) _
            refine E_eqi (y := nI (colN c n0)) (col_N hi (by omega)) ?_
            refine E_istore (l2 := [.ref 38, .int 1, .int ((rkA (fun k => (fcL (fitB sn sc q) 49).getD k 0) (fcL (fitB sn sc q) 49).length n0).1), .int ((rkA (fun k => (fcL (fitB sn sc q) 49).getD k 0) (fcL (fitB sn sc q) 49).length n0).2), .int (nI n0), .int (nI ((ml (fun k => (fcL (fitB sn sc q) 49).getD k 0) n0 (gL (fitB sn sc q) c).length).2)), .int (nI c), .int (nI (colN c n0))]) dX7_ask_81 (by decide) rfl ?_
            refine E_aload_n dX7_ask_83 rfl ?_
            refine E_get dX7_ask_84 fX7_32 (by decide) rfl rfl ?_
            refine E_iload dX7_ask_87 rfl ?_
            refine E_dup2 dX7_ask_89 rfl rfl ?_
            refine E_ialdN (j := colN c n0) dX7_ask_90 (by decide) rfl (by omega) (by decide) ?_
            refine E_iconst (v := 1) dX7_ask_91 (by decide) ?_
            refine E_iadd dX7_ask_92 ?_
            refine E_eqi (y := nI ((ml (fun k => (fcL (fitB sn sc q) 49).getD k 0) n0 (gL (fitB sn sc q) c).length).1 (colN c n0) + 1)) (nI_1 _) ?_
            refine E_iastN (j := colN c n0) (f2 := fun j => nI (updN (ml (fun k => (fcL (fitB sn sc q) 49).getD k 0) n0 (gL (fitB sn sc q) c).length).1 (colN c n0) ((ml (fun k => (fcL (fitB sn sc q) 49).getD k 0) n0 (gL (fitB sn sc q) c).length).1 (colN c n0) + 1) j)) (L2 := [(38, .inr (7, [.ref 39, .ref 40, .int bu, .int (nI q), .ref 41, .int (nI n), .ref 42, .int fl, .int fa, .int fw, .int fr, .int rs, .int ac, .ref 43, .ref 44, .ref 45, .ref 46, .ref 47, .ref 48, .ref 49])), (41, .inl (false, 16, (sgF sn sc))), (45, .inl (false, 7, (fun j => nI (updN (ml (fun k => (fcL (fitB sn sc q) 49).getD k 0) n0 (gL (fitB sn sc q) c).length).1 (colN c n0) ((ml (fun k => (fcL (fitB sn sc q) 49).getD k 0) n0 (gL (fitB sn sc q) c).length).1 (colN c n0) + 1) j))))]) dX7_ask_93 (by decide) rfl (by omega) (by decide) (upd_nI _ _ _) rfl ?_
            refine E_aload_n dX7_ask_94 rfl ?_
            refine E_get dX7_ask_95 fX7_32 (by decide) rfl rfl ?_
            refine E_iload dX7_ask_98 rfl ?_
            refine E_ialdN (j := colN c n0) dX7_ask_100 (by decide) rfl (by omega) (by decide) ?_
            refine E_eqi (y := nI ((ml (fun k => (fcL (fitB sn sc q) 49).getD k 0) n0 (gL (fitB sn sc q) c).length).1 (colN c n0) + 1)) (by simp [updN]) ?_
            refine E_iload dX7_ask_101 rfl ?_
            refine E_icmp_le (tgt := 116) dX7_ask_103 (by decide) (fun c103 => ?_) (fun c103 => ?_)
            · have cb := Nat.le_of_not_lt (fun h => nI_ge h (by omega) c103)
              refine E_iload dX7_ask_116 rfl ?_
              refine E_istore (l2 := [.ref 38, .int 1, .int ((rkA (fun k => (fcL (fitB sn sc q) 49).getD k 0) (fcL (fitB sn sc q) 49).length n0).1), .int ((rkA (fun k => (fcL (fitB sn sc q) 49).getD k 0) (fcL (fitB sn sc q) 49).length n0).2), .int (nI n0), .int (nI ((ml (fun k => (fcL (fitB sn sc q) 49).getD k 0) n0 (gL (fitB sn sc q) c).length).2)), .int (nI c), .int (nI (colN c n0))]) dX7_ask_118 (by decide) rfl ?_
              refine E_iinc (y := nI (c + 1)) (l2 := [.ref 38, .int 1, .int ((rkA (fun k => (fcL (fitB sn sc q) 49).getD k 0) (fcL (fitB sn sc q) 49).length n0).1), .int ((rkA (fun k => (fcL (fitB sn sc q) 49).getD k 0) (fcL (fitB sn sc q) 49).length n0).2), .int (nI n0), .int (nI ((ml (fun k => (fcL (fitB sn sc q) 49).getD k 0) n0 (gL (fitB sn sc q) c).length).2)), .int (nI (c + 1)), .int (nI (colN c n0))]) dX7_ask_120 rfl (nI_1 _) (by decide) rfl ?_
              refine E_goto (tgt := 58) dX7_ask_123 (by decide) ?_
              have e9 := ihc (.int (nI (colN c n0)))
              rw [ml_at c71 hi] at e9
              dsimp only at e9
              rw [Nat.max_eq_left cb] at e9
              exact e9
            · have cb := Nat.lt_of_not_le (fun h => c103 (nI_le h (by omega)))
              refine E_aload_n dX7_ask_106 rfl ?_
              refine E_get dX7_ask_107 fX7_32 (by decide) rfl rfl ?_
              refine E_iload dX7_ask_110 rfl ?_
              refine E_ialdN (j := colN c n0) dX7_ask_112 (by decide) rfl (by omega) (by decide) ?_
              refine E_eqi (y := nI ((ml (fun k => (fcL (fitB sn sc q) 49).getD k 0) n0 (gL (fitB sn sc q) c).length).1 (colN c n0) + 1)) (by simp [updN]) ?_
              refine E_goto (tgt := 118) dX7_ask_113 (by decide) ?_
              refine E_istore (l2 := [.ref 38, .int 1, .int ((rkA (fun k => (fcL (fitB sn sc q) 49).getD k 0) (fcL (fitB sn sc q) 49).length n0).1), .int ((rkA (fun k => (fcL (fitB sn sc q) 49).getD k 0) (fcL (fitB sn sc q) 49).length n0).2), .int (nI n0), .int (nI ((ml (fun k => (fcL (fitB sn sc q) 49).getD k 0) n0 (gL (fitB sn sc q) c).length).1 (colN c n0) + 1)), .int (nI c), .int (nI (colN c n0))]) dX7_ask_118 (by decide) rfl ?_
              refine E_iinc (y := nI (c + 1)) (l2 := [.ref 38, .int 1, .int ((rkA (fun k => (fcL (fitB sn sc q) 49).getD k 0) (fcL (fitB sn sc q) 49).length n0).1), .int ((rkA (fun k => (fcL (fitB sn sc q) 49).getD k 0) (fcL (fitB sn sc q) 49).length n0).2), .int (nI n0), .int (nI ((ml (fun k => (fcL (fitB sn sc q) 49).getD k 0) n0 (gL (fitB sn sc q) c).length).1 (colN c n0) + 1)), .int (nI (c + 1)), .int (nI (colN c n0))]) dX7_ask_120 rfl (nI_1 _) (by decide) rfl ?_
              refine E_goto (tgt := 58) dX7_ask_123 (by decide) ?_
              have e9 := ihc (.int (nI (colN c n0)))
              rw [ml_at c71 hi] at e9
              dsimp only at e9
              rw [Nat.max_eq_right (Nat.le_of_lt cb)] at e9
              exact e9
      have LZ : ∀ j, j ≤ 7 → E YX7_ask (d + 2) 34 [.ref 38, .int 1, .int ((rkA (fun k => (fcL (fitB sn sc q) 49).getD k 0) (fcL (fitB sn sc q) 49).length n0).1), .int ((rkA (fun k => (fcL (fitB sn sc q) 49).getD k 0) (fcL (fitB sn sc q) 49).length n0).2), .int (nI n0), .int 0, .int (nI j), l7] [] (hov hp [(38, .inr (7, [.ref 39, .ref 40, .int bu, .int (nI q), .ref 41, .int (nI n), .ref 42, .int fl, .int fa, .int fw, .int fr, .int rs, .int ac, .ref 43, .ref 44, .ref 45, .ref 46, .ref 47, .ref 48, .ref 49])), (41, .inl (false, 16, (sgF sn sc))), (45, .inl (false, 7, (cpy (ccA cc (fun k => (fcL (fitB sn sc q) 49).getD k 0) (fcL (fitB sn sc q) 49).length n0) (fun _ => 0) j)))]) (fun v h' => v = some (.int (nI ((ak (fun k => (fcL (fitB sn sc q) 49).getD k 0) (fcL (fitB sn sc q) 49).length 21).2))) ∧ h' = hov hp [(38, .inr (7, [.ref 39, .ref 40, .int bu, .int (nI q), .ref 41, .int (nI n), .ref 42, .int fl, .int fa, .int fw, .int fr, .int rs, .int ac, .ref 43, .ref 44, .ref 45, .ref 46, .ref 47, .ref 48, .ref 49])), (41, .inl (false, 16, (sgF sn sc))), (45, .inl (false, 7, (ccA cc (fun k => (fcL (fitB sn sc q) 49).getD k 0) (fcL (fitB sn sc q) 49).length 21)))]) := by
        refine down 7 ?_ ?_
        · refine E_iload dX7_ask_34 rfl ?_
          refine E_bipush (v := 7) dX7_ask_36 (by decide) ?_
          refine E_icmp_ge (tgt := 55) dX7_ask_38 (by decide) (fun _ => ?_) (fun c => absurd (by decide) c)
          refine E_iconst (v := 0) dX7_ask_55 (by decide) ?_
          refine E_istore (l2 := [.ref 38, .int 1, .int ((rkA (fun k => (fcL (fitB sn sc q) 49).getD k 0) (fcL (fitB sn sc q) 49).length n0).1), .int ((rkA (fun k => (fcL (fitB sn sc q) 49).getD k 0) (fcL (fitB sn sc q) 49).length n0).2), .int (nI n0), .int 0, .int 0, l7]) dX7_ask_56 (by decide) rfl ?_
          rw [cpy_all (g := fun _ => 0) (ccA_z hcc n0)]
          exact LC 0 (by decide) _
        · intro j hj ihj
          refine E_iload dX7_ask_34 rfl ?_
          refine E_bipush (v := 7) dX7_ask_36 (by decide) ?_
          refine E_icmp_ge (tgt := 55) dX7_ask_38 (by decide) (fun c => absurd c (cI_nle (n := 7) rfl hj (by decide))) (fun _ => ?_)
          refine E_aload_n dX7_ask_41 rfl ?_
          refine E_get dX7_ask_42 fX7_32 (by decide) rfl rfl ?_
          refine E_iload dX7_ask_45 rfl ?_
          refine E_iconst (v := 0) dX7_ask_47 (by decide) ?_
          refine E_iastN (j := j) (f2 := cpy (ccA cc (fun k => (fcL (fitB sn sc q) 49).getD k 0) (fcL (fitB sn sc q) 49).length n0) (fun _ => 0) (j + 1)) (L2 := [(38, .inr (7, [.ref 39, .ref 40, .int bu, .int (nI q), .ref 41, .int (nI n), .ref 42, .int fl, .int fa, .int fw, .int fr, .int rs, .int ac, .ref 43, .ref 44, .ref 45, .ref 46, .ref 47, .ref 48, .ref 49])), (41, .inl (false, 16, (sgF sn sc))), (45, .inl (false, 7, (cpy (ccA cc (fun k => (fcL (fitB sn sc q) 49).getD k 0) (fcL (fitB sn sc q) 49).length n0) (fun _ => 0) (j + 1))))]) dX7_ask_48 (by decide) rfl (by omega) (by decide) (cpy_s _ (fun _ => 0) _) rfl ?_
          refine E_iinc (y := nI (j + 1)) (l2 := [.ref 38, .int 1, .int ((rkA (fun k => (fcL (fitB sn sc q) 49).getD k 0) (fcL (fitB sn sc q) 49).length n0).1), .int ((rkA (fun k => (fcL (fitB sn sc q) 49).getD k 0) (fcL (fitB sn sc q) 49).length n0).2), .int (nI n0), .int 0, .int (nI (j + 1)), l7]) dX7_ask_49 rfl (nI_1 _) (by decide) rfl ?_
          refine E_goto (tgt := 34) dX7_ask_52 (by decide) ?_
          exact ihj
      refine E_iload dX7_ask_21 rfl ?_
      refine E_bipush (v := 21) dX7_ask_23 (by decide) ?_
      refine E_icmp_ge (tgt := 174) dX7_ask_25 (by decide) (fun c => absurd c (cI_nle (n := 21) rfl hn0 (by decide))) (fun _ => ?_)
      refine E_iconst (v := 0) dX7_ask_28 (by decide) ?_
      refine E_istore (l2 := [.ref 38, .int 1, .int ((rkA (fun k => (fcL (fitB sn sc q) 49).getD k 0) (fcL (fitB sn sc q) 49).length n0).1), .int ((rkA (fun k => (fcL (fitB sn sc q) 49).getD k 0) (fcL (fitB sn sc q) 49).length n0).2), .int (nI n0), .int 0, l6, l7]) dX7_ask_29 (by decide) rfl ?_
      refine E_iconst (v := 0) dX7_ask_31 (by decide) ?_
      refine E_istore (l2 := [.ref 38, .int 1, .int ((rkA (fun k => (fcL (fitB sn sc q) 49).getD k 0) (fcL (fitB sn sc q) 49).length n0).1), .int ((rkA (fun k => (fcL (fitB sn sc q) 49).getD k 0) (fcL (fitB sn sc q) 49).length n0).2), .int (nI n0), .int 0, .int 0, l7]) dX7_ask_32 (by decide) rfl ?_
      have e0 := LZ 0 (by decide)
      rw [cpy_0] at e0
      exact e0
  refine E_iload_n dX7_ask_0 rfl ?_
  refine E_iconst (v := 0) dX7_ask_1 (by decide) ?_
  refine E_iconst (v := 1) dX7_ask_2 (by decide) ?_
  refine E_callS (As := [.int 1, .int 0, .int 1]) (l' := [.int 1, .int 0, .int 1]) (st := []) dX7_ask_3 kX7_48 sX7_in MX7_in rfl rfl (Nat.le_of_ble_eq_true rfl) (FC.use (c_in (d + 1) _ _ _) rfl (L2 := [(38, .inr (7, [.ref 39, .ref 40, .int bu, .int (nI q), .ref 41, .int (nI n), .ref 42, .int fl, .int fa, .int fw, .int fr, .int rs, .int ac, .ref 43, .ref 44, .ref 45, .ref 46, .ref 47, .ref 48, .ref 49])), (41, .inl (false, 16, (sgF sn sc))), (45, .inl (false, 7, cc))]) rfl) (Nat.le_of_ble_eq_true rfl) (fun _ _ hq9 => E_fgo ?_ hq9)
  show E _ _ 6 [.ref 38, .int 1, .null, .null, .null, .null, .null, .null] [.int (b2i (inI 1 0 1))] (hov hp [(38, .inr (7, [.ref 39, .ref 40, .int bu, .int (nI q), .ref 41, .int (nI n), .ref 42, .int fl, .int fa, .int fw, .int fr, .int rs, .int ac, .ref 43, .ref 44, .ref 45, .ref 46, .ref 47, .ref 48, .ref 49])), (41, .inl (false, 16, (sgF sn sc))), (45, .inl (false, 7, cc))]) _
  refine E_if_ne (tgt := 12) dX7_ask_6 (by decide) (fun _ => ?_) (fun c => (b2i_x1 (by decide) c).elim)
  refine E_bipush (v := (-6)) dX7_ask_12 (by decide) ?_
  refine E_istore_n (l2 := [.ref 38, .int 1, .int (-6), .null, .null, .null, .null, .null]) dX7_ask_14 rfl (by decide) rfl ?_
  refine E_ldc dX7_ask_15 qX7_140 ?_
  refine E_istore_n (l2 := [.ref 38, .int 1, .int (-6), .int 1000000, .null, .null, .null, .null]) dX7_ask_17 rfl (by decide) rfl ?_
  refine E_iconst (v := 0) dX7_ask_18 (by decide) ?_
  refine E_istore (l2 := [.ref 38, .int 1, .int (-6), .int 1000000, .int 0, .null, .null, .null]) dX7_ask_19 (by decide) rfl ?_
  exact L 0 (by decide) _ _ _
