/-! the reference's calls: weeks, heaps, pad, sights, images -/
theorem flt_pos {f : Nat → Int32} : ∀ (k p : Nat) (b : Bool), p + k < 100 → ¬ flt f k p b = -6 → 0 ≤ flt f k p b
  | 0, p, b, hp, h => by
    cases b with
    | false => exact absurd rfl h
    | true => exact nI_pos' (by omega)
  | k + 1, p, b, hp, h => by
    cases ho : okS b (f p) with
    | true => rw [flt_ok ho] at h ⊢; exact flt_pos k (p + 1) _ (by omega) h
    | false => rw [flt_no ho]; exact nI_pos' (by omega)
theorem wk_acts {f : Nat → Int32} : ∀ (k p : Nat) (w : WS), wA (wk f k p w).1 ≤ wA w + k
  | 0, p, w => Nat.le_refl _
  | 1, p, w => by
    rw [wk]
    split
    · split
      · exact Nat.le_refl _
      · show wA w ≤ _; omega
    · show wA w ≤ _; omega
  | k + 2, p, w => by
    rw [wk]
    split
    · split
      · have := wk_acts (f := f) (k + 1) (p + 1) (wkn w 5 0 0)
        rw [wkn_A] at this; omega
      · show wA w ≤ _; omega
    · split
      · have := wk_acts (f := f) k (p + 2) (wkn w (kdN (f (p + 1))) (hN (f p)) (f (p + 1) - 97))
        rw [wkn_A] at this; omega
      · show wA w ≤ _; omega
theorem stA_0 {r : WS × Int32} (h : r.2 = 0) : stA r = -6 := if_pos h
theorem stA_1 {r : WS × Int32} (h : ¬ r.2 = 0) : stA r = nI (wA r.1) := if_neg h
theorem stW_0 {r : WS × Int32} (h : r.2 = 0) : stW r = -6 := if_pos h
theorem stW_1 {r : WS × Int32} (h : ¬ r.2 = 0) : stW r = r.2 := if_neg h
def sgF (sn sc : Nat → Int32) : Nat → Int32 := fun j => if j < 16 then (if j % 2 = 0 then sn (j / 2) else sc (j / 2)) else 0
theorem sg_0 {sn sc : Nat → Int32} {i : Nat} (h : i < 8) : sgF sn sc (2 * i) = sn i := by
  simp only [sgF]; rw [if_pos (by omega), if_pos (by omega), show 2 * i / 2 = i by omega]
theorem sg_1 {sn sc : Nat → Int32} {i : Nat} (h : i < 8) : sgF sn sc (2 * i + 1) = sc i := by
  simp only [sgF]; rw [if_pos (by omega), if_neg (by omega), show (2 * i + 1) / 2 = i by omega]
theorem sg_add {sn sc : Nat → Int32} {q : Nat} (h : q < 8) (x y : Int32) : upd (upd (sgF sn sc) (2 * q) x) (2 * q + 1) y = sgF (upd sn q x) (upd sc q y) := by
  funext j
  simp only [upd, sgF]
  by_cases e1 : j = 2 * q + 1
  · rw [if_pos e1, if_pos (by omega), if_neg (by omega), if_pos (by omega)]
  · rw [if_neg e1]
    by_cases e2 : j = 2 * q
    · rw [if_pos e2, if_pos (by omega), if_pos (by omega), if_pos (by omega)]
    · rw [if_neg e2]
      by_cases e3 : j < 16
      · rw [if_pos e3, if_pos e3]
        by_cases e4 : j % 2 = 0
        · rw [if_pos e4, if_pos e4, if_neg (by omega)]
        · rw [if_neg e4, if_neg e4, if_neg (by omega)]
      · rw [if_neg e3, if_neg e3]
def cpo (f g : Nat → Int32) (b n : Nat) : Nat → Int32 := fun j => if b ≤ j ∧ j < b + n then g (j - b) else f j
theorem cpo_0 (f g : Nat → Int32) (b : Nat) : cpo f g b 0 = f := by funext j; simp only [cpo]; rw [if_neg (by omega)]
theorem cpo_s (f g : Nat → Int32) (b n : Nat) : upd (cpo f g b n) (b + n) (g n) = cpo f g b (n + 1) := by
  funext j
  simp only [upd, cpo]
  by_cases h : j = b + n
  · rw [if_pos h, if_pos (by omega), show j - b = n by omega]
  · rw [if_neg h]
    by_cases h2 : b ≤ j ∧ j < b + n
    · rw [if_pos h2, if_pos (by omega)]
    · rw [if_neg h2, if_neg (by omega)]
def imgF (i0 i1 : Nat → Int32) : Nat → Int32 := fun j => if j < 50 then i0 j else if j < 100 then i1 (j - 50) else 0
def slF (s : CS) (sn sc : Nat → Int32) (q : Nat) (i : Nat → Int32) : Nat → Int32 := fun k => if k < 22 then bkF s k else if k < 38 then sgF sn sc (k - 22) else if k = 45 then sbu s else if k = 46 then nI q else i k
theorem im_0 {s : CS} {sn sc i0 i1 : Nat → Int32} {q : Nat} : upd (upd (cpo (cpo (imgF i0 i1) (bkF s) 0 22) (sgF sn sc) 22 16) 45 (sbu s)) 46 (nI q) = imgF (slF s sn sc q i0) i1 := by
  funext j
  simp only [upd, cpo, imgF, slF]
  by_cases a : j = 46
  · subst a; simp
  · rw [if_neg a]
    by_cases b : j = 45
    · subst b; simp
    · rw [if_neg b]
      by_cases c : j < 22
      · rw [if_neg (by omega), if_pos (by omega), if_pos (by omega), if_pos c]; rfl
      · by_cases e : j < 38
        · rw [if_pos (by omega), if_pos (by omega), if_neg c, if_pos e]
        · rw [if_neg (by omega), if_neg (by omega)]
          by_cases g : j < 50
          · rw [if_pos g, if_pos g, if_neg c, if_neg e, if_neg b, if_neg a]
          · rw [if_neg g, if_neg g]
theorem im_1 {s : CS} {sn sc i0 i1 : Nat → Int32} {q : Nat} : upd (upd (cpo (cpo (imgF i0 i1) (bkF s) 50 22) (sgF sn sc) 72 16) 95 (sbu s)) 96 (nI q) = imgF i0 (slF s sn sc q i1) := by
  funext j
  simp only [upd, cpo, imgF, slF]
  by_cases a : j = 96
  · subst a; simp
  · rw [if_neg a]
    by_cases b : j = 95
    · subst b; simp
    · rw [if_neg b]
      by_cases z : j < 50
      · rw [if_neg (by omega), if_neg (by omega), if_pos z, if_pos z]
      · by_cases c : j < 72
        · rw [if_neg (by omega), if_pos (by omega), if_neg z, if_pos (by omega), if_pos (by omega)]
        · by_cases e : j < 88
          · rw [if_pos (by omega), if_neg z, if_pos (by omega), if_neg (by omega), if_pos (by omega), show j - 72 = j - 50 - 22 by omega]
          · rw [if_neg (by omega), if_neg (by omega), if_neg z, if_neg z]
            by_cases g : j < 100
            · rw [if_pos g, if_pos g, if_neg (by omega), if_neg (by omega), if_neg (by omega), if_neg (by omega)]
            · rw [if_neg g, if_neg g]
theorem img_g0 {i0 i1 : Nat → Int32} {k : Nat} (h : k < 50) : imgF i0 i1 k = i0 k := by simp only [imgF]; rw [if_pos h]
theorem img_g1 {i0 i1 : Nat → Int32} {k : Nat} (h : k < 50) : imgF i0 i1 (50 + k) = i1 k := by simp only [imgF]; rw [if_neg (by omega), if_pos (by omega), show 50 + k - 50 = k by omega]
theorem sl_b {s : CS} {sn sc i : Nat → Int32} {q k : Nat} (h : k < 22) : slF s sn sc q i k = bkF s k := by simp only [slF]; rw [if_pos h]
theorem sl_s {s : CS} {sn sc i : Nat → Int32} {q k : Nat} (h : k < 16) : slF s sn sc q i (22 + k) = sgF sn sc k := by simp only [slF]; rw [if_neg (by omega), if_pos (by omega), show 22 + k - 22 = k by omega]
theorem sg_out {sn sc : Nat → Int32} {j : Nat} (h : 16 ≤ j) : sgF sn sc j = 0 := by simp only [sgF]; rw [if_neg (by omega)]

set_option maxHeartbeats 4000000 in
set_option maxRecDepth 20000 in
theorem m_bar_f (d : Nat) (fl fa fw fr rs ac : Int32) (q n : Nat) (f : Nat → Int32) (hn : n ≤ 60) (s t : CS) (hs : OkS s) (hf : ¬ flt f n 0 false = -6) : FC YX7_barOfWeeks (d + 6) [.ref 38] [(38, .inr (7, [.ref 39, .ref 40, .int (sbu s), .int (nI q), .ref 41, .int (nI n), .ref 42, .int fl, .int fa, .int fw, .int fr, .int rs, .int ac, .ref 43, .ref 44, .ref 45, .ref 46, .ref 47, .ref 48, .ref 49])), (39, .inl (false, 22, (bkF s))), (40, .inl (false, 22, (bkF t))), (42, .inl (false, 60, f))] (some (.int (-5))) [(38, .inr (7, [.ref 39, .ref 40, .int (sbu s), .int (nI q), .ref 41, .int (nI n), .ref 42, .int fl, .int fa, .int fw, .int fr, .int rs, .int ac, .ref 43, .ref 44, .ref 45, .ref 46, .ref 47, .ref 48, .ref 49])), (39, .inl (false, 22, (bkF s))), (40, .inl (false, 22, (bkF t))), (42, .inl (false, 60, f))] := by
  intro hp
  refine E_aload_n dX7_barOfWeeks_0 rfl ?_
  refine E_callV (As := []) (l' := [.ref 38, .null, .null, .null, .null, .null]) (st := []) dX7_barOfWeeks_1 kX7_63 iX7_faultOf vX7_faultOf (by decide) rfl rfl MX7_faultOf rfl rfl (Nat.le_of_ble_eq_true rfl) (FC.use (m_faultOf (d + 4) (sbu s) fl fa fw fr rs ac q n f hn) rfl (L2 := [(38, .inr (7, [.ref 39, .ref 40, .int (sbu s), .int (nI q), .ref 41, .int (nI n), .ref 42, .int fl, .int fa, .int fw, .int fr, .int rs, .int ac, .ref 43, .ref 44, .ref 45, .ref 46, .ref 47, .ref 48, .ref 49])), (39, .inl (false, 22, (bkF s))), (40, .inl (false, 22, (bkF t))), (42, .inl (false, 60, f))]) rfl) (Nat.le_of_ble_eq_true rfl) (fun _ _ hq9 => E_fgo ?_ hq9)
  show E _ _ 4 [.ref 38] [.int (flt f n 0 false)] (hov hp [(38, .inr (7, [.ref 39, .ref 40, .int (sbu s), .int (nI q), .ref 41, .int (nI n), .ref 42, .int fl, .int fa, .int fw, .int fr, .int rs, .int ac, .ref 43, .ref 44, .ref 45, .ref 46, .ref 47, .ref 48, .ref 49])), (39, .inl (false, 22, (bkF s))), (40, .inl (false, 22, (bkF t))), (42, .inl (false, 60, f))]) _
  refine E_if_ge (tgt := 14) dX7_barOfWeeks_4 (by decide) (fun _ => ?_) (fun c => absurd (flt_pos n 0 false (by omega) hf) c)
  refine E_bipush (v := (-5)) dX7_barOfWeeks_14 (by decide) ?_
  refine E_goto (tgt := 20) dX7_barOfWeeks_16 (by decide) ?_
  exact E_iretf dX7_barOfWeeks_20 rfl rfl rfl rfl

set_option maxHeartbeats 4000000 in
set_option maxRecDepth 20000 in
theorem m_bar_1 (d : Nat) (fl fa fw fr rs ac : Int32) (q n : Nat) (f : Nat → Int32) (hn : n ≤ 60) (s t : CS) (hs : OkS s) (hf : flt f n 0 false = -6) (hr : (wk f n 0 (wk0 s)).2 = 0) : FR YX7_barOfWeeks (d + 6) [.ref 38] [(38, .inr (7, [.ref 39, .ref 40, .int (sbu s), .int (nI q), .ref 41, .int (nI n), .ref 42, .int fl, .int fa, .int fw, .int fr, .int rs, .int ac, .ref 43, .ref 44, .ref 45, .ref 46, .ref 47, .ref 48, .ref 49])), (39, .inl (false, 22, (bkF s))), (40, .inl (false, 22, (bkF t))), (42, .inl (false, 60, f))] (fun v M => ∃ fr' rs' : Int32, M = [(38, .inr (7, [.ref 39, .ref 40, .int (sbu s), .int (nI q), .ref 41, .int (nI n), .ref 42, .int (wF ((wk f n 0 (wk0 s)).1)), .int (wG ((wk f n 0 (wk0 s)).1)), .int (wH ((wk f n 0 (wk0 s)).1)), .int fr', .int rs', .int (nI (wA ((wk f n 0 (wk0 s)).1))), .ref 43, .ref 44, .ref 45, .ref 46, .ref 47, .ref 48, .ref 49])), (39, .inl (false, 22, (bkF s))), (40, .inl (false, 22, (bkF (wS (wk f n 0 (wk0 s)).1)))), (42, .inl (false, 60, f))] ∧ v = some (.int 0)) := by
  intro hp
  refine E_aload_n dX7_barOfWeeks_0 rfl ?_
  refine E_callV (As := []) (l' := [.ref 38, .null, .null, .null, .null, .null]) (st := []) dX7_barOfWeeks_1 kX7_63 iX7_faultOf vX7_faultOf (by decide) rfl rfl MX7_faultOf rfl rfl (Nat.le_of_ble_eq_true rfl) (FC.use (m_faultOf (d + 4) (sbu s) fl fa fw fr rs ac q n f hn) rfl (L2 := [(38, .inr (7, [.ref 39, .ref 40, .int (sbu s), .int (nI q), .ref 41, .int (nI n), .ref 42, .int fl, .int fa, .int fw, .int fr, .int rs, .int ac, .ref 43, .ref 44, .ref 45, .ref 46, .ref 47, .ref 48, .ref 49])), (39, .inl (false, 22, (bkF s))), (40, .inl (false, 22, (bkF t))), (42, .inl (false, 60, f))]) rfl) (Nat.le_of_ble_eq_true rfl) (fun _ _ hq9 => E_fgo ?_ hq9)
  show E _ _ 4 [.ref 38] [.int (flt f n 0 false)] (hov hp [(38, .inr (7, [.ref 39, .ref 40, .int (sbu s), .int (nI q), .ref 41, .int (nI n), .ref 42, .int fl, .int fa, .int fw, .int fr, .int rs, .int ac, .ref 43, .ref 44, .ref 45, .ref 46, .ref 47, .ref 48, .ref 49])), (39, .inl (false, 22, (bkF s))), (40, .inl (false, 22, (bkF t))), (42, .inl (false, 60, f))]) _
  refine E_if_ge (tgt := 14) dX7_barOfWeeks_4 (by decide) (fun c => absurd c (by rw [hf]; decide)) (fun _ => ?_)
  refine E_aload_n dX7_barOfWeeks_7 rfl ?_
  refine E_callV (As := []) (l' := [.ref 38, .null, .null, .null]) (st := []) dX7_barOfWeeks_8 kX7_117 iX7_goWeeks vX7_goWeeks (by decide) rfl rfl MX7_goWeeks rfl rfl (Nat.le_of_ble_eq_true rfl) (FR.use (m_goWeeks d (sbu s) fl fa fw fr rs ac q n f hn s t hs hf) (L := [(38, .inr (7, [.ref 39, .ref 40, .int (sbu s), .int (nI q), .ref 41, .int (nI n), .ref 42, .int fl, .int fa, .int fw, .int fr, .int rs, .int ac, .ref 43, .ref 44, .ref 45, .ref 46, .ref 47, .ref 48, .ref 49])), (39, .inl (false, 22, (bkF s))), (40, .inl (false, 22, (bkF t))), (42, .inl (false, 60, f))]) rfl) (Nat.le_of_ble_eq_true rfl) ?_
  intro v9 h9 hq9
  obtain ⟨M, rfl, fr', rs', rfl, rfl, hrs⟩ := hq9
  show E _ _ 11 [.ref 38] [.int (stA (wk f n 0 (wk0 s)))] (hov hp [(38, .inr (7, [.ref 39, .ref 40, .int (sbu s), .int (nI q), .ref 41, .int (nI n), .ref 42, .int (wF ((wk f n 0 (wk0 s)).1)), .int (wG ((wk f n 0 (wk0 s)).1)), .int (wH ((wk f n 0 (wk0 s)).1)), .int fr', .int rs', .int (nI (wA ((wk f n 0 (wk0 s)).1))), .ref 43, .ref 44, .ref 45, .ref 46, .ref 47, .ref 48, .ref 49])), (39, .inl (false, 22, (bkF s))), (40, .inl (false, 22, (bkF (wS (wk f n 0 (wk0 s)).1)))), (42, .inl (false, 60, f))]) _
  refine E_eqi (y := (-6)) (stA_0 hr) ?_
  refine E_if_lt (tgt := 19) dX7_barOfWeeks_11 (by decide) (fun _ => ?_) (fun c => absurd (by decide) c)
  refine E_iconst (v := 0) dX7_barOfWeeks_19 (by decide) ?_
  exact E_iret (st := []) dX7_barOfWeeks_20 rfl rfl ⟨_, rfl, fr', rs', rfl, rfl⟩

set_option maxHeartbeats 4000000 in
set_option maxRecDepth 20000 in
theorem m_bar_0 (d : Nat) (fl fa fw fr rs ac : Int32) (q n : Nat) (f : Nat → Int32) (hn : n ≤ 60) (s t : CS) (hs : OkS s) (hf : flt f n 0 false = -6) (hr : ¬ (wk f n 0 (wk0 s)).2 = 0) : FR YX7_barOfWeeks (d + 6) [.ref 38] [(38, .inr (7, [.ref 39, .ref 40, .int (sbu s), .int (nI q), .ref 41, .int (nI n), .ref 42, .int fl, .int fa, .int fw, .int fr, .int rs, .int ac, .ref 43, .ref 44, .ref 45, .ref 46, .ref 47, .ref 48, .ref 49])), (39, .inl (false, 22, (bkF s))), (40, .inl (false, 22, (bkF t))), (42, .inl (false, 60, f))] (fun v M => ∃ fr' rs' : Int32, M = [(38, .inr (7, [.ref 39, .ref 40, .int (sbu s), .int (nI q), .ref 41, .int (nI n), .ref 42, .int (wF ((wk f n 0 (wk0 s)).1)), .int (wG ((wk f n 0 (wk0 s)).1)), .int (wH ((wk f n 0 (wk0 s)).1)), .int fr', .int rs', .int (nI (wA ((wk f n 0 (wk0 s)).1))), .ref 43, .ref 44, .ref 45, .ref 46, .ref 47, .ref 48, .ref 49])), (39, .inl (false, 22, (bkF s))), (40, .inl (false, 22, (bkF (wS (wk f n 0 (wk0 s)).1)))), (42, .inl (false, 60, f))] ∧ v = some (.int (-5))) := by
  intro hp
  refine E_aload_n dX7_barOfWeeks_0 rfl ?_
  refine E_callV (As := []) (l' := [.ref 38, .null, .null, .null, .null, .null]) (st := []) dX7_barOfWeeks_1 kX7_63 iX7_faultOf vX7_faultOf (by decide) rfl rfl MX7_faultOf rfl rfl (Nat.le_of_ble_eq_true rfl) (FC.use (m_faultOf (d + 4) (sbu s) fl fa fw fr rs ac q n f hn) rfl (L2 := [(38, .inr (7, [.ref 39, .ref 40, .int (sbu s), .int (nI q), .ref 41, .int (nI n), .ref 42, .int fl, .int fa, .int fw, .int fr, .int rs, .int ac, .ref 43, .ref 44, .ref 45, .ref 46, .ref 47, .ref 48, .ref 49])), (39, .inl (false, 22, (bkF s))), (40, .inl (false, 22, (bkF t))), (42, .inl (false, 60, f))]) rfl) (Nat.le_of_ble_eq_true rfl) (fun _ _ hq9 => E_fgo ?_ hq9)
  show E _ _ 4 [.ref 38] [.int (flt f n 0 false)] (hov hp [(38, .inr (7, [.ref 39, .ref 40, .int (sbu s), .int (nI q), .ref 41, .int (nI n), .ref 42, .int fl, .int fa, .int fw, .int fr, .int rs, .int ac, .ref 43, .ref 44, .ref 45, .ref 46, .ref 47, .ref 48, .ref 49])), (39, .inl (false, 22, (bkF s))), (40, .inl (false, 22, (bkF t))), (42, .inl (false, 60, f))]) _
  refine E_if_ge (tgt := 14) dX7_barOfWeeks_4 (by decide) (fun c => absurd c (by rw [hf]; decide)) (fun _ => ?_)
  refine E_aload_n dX7_barOfWeeks_7 rfl ?_
  refine E_callV (As := []) (l' := [.ref 38, .null, .null, .null]) (st := []) dX7_barOfWeeks_8 kX7_117 iX7_goWeeks vX7_goWeeks (by decide) rfl rfl MX7_goWeeks rfl rfl (Nat.le_of_ble_eq_true rfl) (FR.use (m_goWeeks d (sbu s) fl fa fw fr rs ac q n f hn s t hs hf) (L := [(38, .inr (7, [.ref 39, .ref 40, .int (sbu s), .int (nI q), .ref 41, .int (nI n), .ref 42, .int fl, .int fa, .int fw, .int fr, .int rs, .int ac, .ref 43, .ref 44, .ref 45, .ref 46, .ref 47, .ref 48, .ref 49])), (39, .inl (false, 22, (bkF s))), (40, .inl (false, 22, (bkF t))), (42, .inl (false, 60, f))]) rfl) (Nat.le_of_ble_eq_true rfl) ?_
  intro v9 h9 hq9
  obtain ⟨M, rfl, fr', rs', rfl, rfl, hrs⟩ := hq9
  show E _ _ 11 [.ref 38] [.int (stA (wk f n 0 (wk0 s)))] (hov hp [(38, .inr (7, [.ref 39, .ref 40, .int (sbu s), .int (nI q), .ref 41, .int (nI n), .ref 42, .int (wF ((wk f n 0 (wk0 s)).1)), .int (wG ((wk f n 0 (wk0 s)).1)), .int (wH ((wk f n 0 (wk0 s)).1)), .int fr', .int rs', .int (nI (wA ((wk f n 0 (wk0 s)).1))), .ref 43, .ref 44, .ref 45, .ref 46, .ref 47, .ref 48, .ref 49])), (39, .inl (false, 22, (bkF s))), (40, .inl (false, 22, (bkF (wS (wk f n 0 (wk0 s)).1)))), (42, .inl (false, 60, f))]) _
  refine E_eqi (y := nI (wA (wk f n 0 (wk0 s)).1)) (stA_1 hr) ?_
  refine E_if_lt (tgt := 19) dX7_barOfWeeks_11 (by decide) (fun c => absurd c (nI_pos (by have := wk_acts (f := f) n 0 (wk0 s); rw [show wA (wk0 s) = 0 from rfl] at this; omega))) (fun _ => ?_)
  refine E_bipush (v := (-5)) dX7_barOfWeeks_14 (by decide) ?_
  refine E_goto (tgt := 20) dX7_barOfWeeks_16 (by decide) ?_
  exact E_iret (st := []) dX7_barOfWeeks_20 rfl rfl ⟨_, rfl, fr', rs', rfl, rfl⟩

set_option maxHeartbeats 4000000 in
set_option maxRecDepth 20000 in
theorem m_judge_out (d : Nat) (bu fl fa fw fr rs ac : Int32) (q n : Nat) (v : Int32) (hv : inI v 0 1 = false) : FC YX7_judge (d + 7) [.ref 38, .int v, .null] [(38, .inr (7, [.ref 39, .ref 40, .int bu, .int (nI q), .ref 41, .int (nI n), .ref 42, .int fl, .int fa, .int fw, .int fr, .int rs, .int ac, .ref 43, .ref 44, .ref 45, .ref 46, .ref 47, .ref 48, .ref 49]))] (some (.int (-2))) [(38, .inr (7, [.ref 39, .ref 40, .int bu, .int (nI q), .ref 41, .int (nI n), .ref 42, .int fl, .int fa, .int fw, .int fr, .int rs, .int ac, .ref 43, .ref 44, .ref 45, .ref 46, .ref 47, .ref 48, .ref 49]))] := by
  intro hp
  refine E_iload_n dX7_judge_0 rfl ?_
  refine E_iconst (v := 0) dX7_judge_1 (by decide) ?_
  refine E_iconst (v := 1) dX7_judge_2 (by decide) ?_
  refine E_callS (As := [.int v, .int 0, .int 1]) (l' := [.int v, .int 0, .int 1]) (st := []) dX7_judge_3 kX7_48 sX7_in MX7_in rfl rfl (Nat.le_of_ble_eq_true rfl) (FC.use (c_in (d + 6) _ _ _) rfl (L2 := [(38, .inr (7, [.ref 39, .ref 40, .int bu, .int (nI q), .ref 41, .int (nI n), .ref 42, .int fl, .int fa, .int fw, .int fr, .int rs, .int ac, .ref 43, .ref 44, .ref 45, .ref 46, .ref 47, .ref 48, .ref 49]))]) rfl) (Nat.le_of_ble_eq_true rfl) (fun _ _ hq9 => E_fgo ?_ hq9)
  show E _ _ 6 [.ref 38, .int v, .null] [.int (b2i (inI v 0 1))] (hov hp [(38, .inr (7, [.ref 39, .ref 40, .int bu, .int (nI q), .ref 41, .int (nI n), .ref 42, .int fl, .int fa, .int fw, .int fr, .int rs, .int ac, .ref 43, .ref 44, .ref 45, .ref 46, .ref 47, .ref 48, .ref 49]))]) _
  refine E_if_ne (tgt := 12) dX7_judge_6 (by decide) (fun c => (b2i_x0 hv c).elim) (fun _ => ?_)
  refine E_bipush (v := (-2)) dX7_judge_9 (by decide) ?_
  exact E_iretf dX7_judge_11 rfl rfl rfl rfl

set_option maxHeartbeats 4000000 in
set_option maxRecDepth 20000 in
theorem m_judge_no (d : Nat) (fl fa fw fr rs ac : Int32) (q n : Nat) (f : Nat → Int32) (hn : n ≤ 60) (s t : CS) (hs : OkS s) (hf : ¬ flt f n 0 false = -6) (v : Int32) (hv : inI v 0 1 = true) : FC YX7_judge (d + 7) [.ref 38, .int v, .null] [(38, .inr (7, [.ref 39, .ref 40, .int (sbu s), .int (nI q), .ref 41, .int (nI n), .ref 42, .int fl, .int fa, .int fw, .int fr, .int rs, .int ac, .ref 43, .ref 44, .ref 45, .ref 46, .ref 47, .ref 48, .ref 49])), (39, .inl (false, 22, (bkF s))), (40, .inl (false, 22, (bkF t))), (42, .inl (false, 60, f))] (some (.int (-5))) [(38, .inr (7, [.ref 39, .ref 40, .int (sbu s), .int (nI q), .ref 41, .int (nI n), .ref 42, .int fl, .int fa, .int fw, .int fr, .int rs, .int ac, .ref 43, .ref 44, .ref 45, .ref 46, .ref 47, .ref 48, .ref 49])), (39, .inl (false, 22, (bkF s))), (40, .inl (false, 22, (bkF t))), (42, .inl (false, 60, f))] := by
  intro hp
  refine E_iload_n dX7_judge_0 rfl ?_
  refine E_iconst (v := 0) dX7_judge_1 (by decide) ?_
  refine E_iconst (v := 1) dX7_judge_2 (by decide) ?_
  refine E_callS (As := [.int v, .int 0, .int 1]) (l' := [.int v, .int 0, .int 1]) (st := []) dX7_judge_3 kX7_48 sX7_in MX7_in rfl rfl (Nat.le_of_ble_eq_true rfl) (FC.use (c_in (d + 6) _ _ _) rfl (L2 := [(38, .inr (7, [.ref 39, .ref 40, .int (sbu s), .int (nI q), .ref 41, .int (nI n), .ref 42, .int fl, .int fa, .int fw, .int fr, .int rs, .int ac, .ref 43, .ref 44, .ref 45, .ref 46, .ref 47, .ref 48, .ref 49])), (39, .inl (false, 22, (bkF s))), (40, .inl (false, 22, (bkF t))), (42, .inl (false, 60, f))]) rfl) (Nat.le_of_ble_eq_true rfl) (fun _ _ hq9 => E_fgo ?_ hq9)
  show E _ _ 6 [.ref 38, .int v, .null] [.int (b2i (inI v 0 1))] (hov hp [(38, .inr (7, [.ref 39, .ref 40, .int (sbu s), .int (nI q), .ref 41, .int (nI n), .ref 42, .int fl, .int fa, .int fw, .int fr, .int rs, .int ac, .ref 43, .ref 44, .ref 45, .ref 46, .ref 47, .ref 48, .ref 49])), (39, .inl (false, 22, (bkF s))), (40, .inl (false, 22, (bkF t))), (42, .inl (false, 60, f))]) _
  refine E_if_ne (tgt := 12) dX7_judge_6 (by decide) (fun _ => ?_) (fun c => (b2i_x1 hv c).elim)
  refine E_aload_n dX7_judge_12 rfl ?_
  refine E_callV (As := []) (l' := [.ref 38, .null, .null, .null, .null, .null]) (st := []) dX7_judge_13 kX7_63 iX7_faultOf vX7_faultOf (by decide) rfl rfl MX7_faultOf rfl rfl (Nat.le_of_ble_eq_true rfl) (FC.use (m_faultOf (d + 5) (sbu s) fl fa fw fr rs ac q n f hn) rfl (L2 := [(38, .inr (7, [.ref 39, .ref 40, .int (sbu s), .int (nI q), .ref 41, .int (nI n), .ref 42, .int fl, .int fa, .int fw, .int fr, .int rs, .int ac, .ref 43, .ref 44, .ref 45, .ref 46, .ref 47, .ref 48, .ref 49])), (39, .inl (false, 22, (bkF s))), (40, .inl (false, 22, (bkF t))), (42, .inl (false, 60, f))]) rfl) (Nat.le_of_ble_eq_true rfl) (fun _ _ hq9 => E_fgo ?_ hq9)
  show E _ _ 16 [.ref 38, .int v, .null] [.int (flt f n 0 false)] (hov hp [(38, .inr (7, [.ref 39, .ref 40, .int (sbu s), .int (nI q), .ref 41, .int (nI n), .ref 42, .int fl, .int fa, .int fw, .int fr, .int rs, .int ac, .ref 43, .ref 44, .ref 45, .ref 46, .ref 47, .ref 48, .ref 49])), (39, .inl (false, 22, (bkF s))), (40, .inl (false, 22, (bkF t))), (42, .inl (false, 60, f))]) _
  refine E_if_lt (tgt := 22) dX7_judge_16 (by decide) (fun c => absurd (flt_pos n 0 false (by omega) hf) (Int32.not_le.mpr c)) (fun _ => ?_)
  refine E_bipush (v := (-5)) dX7_judge_19 (by decide) ?_
  exact E_iretf dX7_judge_21 rfl rfl rfl rfl

set_option maxHeartbeats 4000000 in
set_option maxRecDepth 20000 in
theorem m_judge_0 (d : Nat) (fl fa fw fr rs ac : Int32) (q n : Nat) (f : Nat → Int32) (hn : n ≤ 60) (s t : CS) (hs : OkS s) (hf : flt f n 0 false = -6) : FR YX7_judge (d + 7) [.ref 38, .int 0, .null] [(38, .inr (7, [.ref 39, .ref 40, .int (sbu s), .int (nI q), .ref 41, .int (nI n), .ref 42, .int fl, .int fa, .int fw, .int fr, .int rs, .int ac, .ref 43, .ref 44, .ref 45, .ref 46, .ref 47, .ref 48, .ref 49])), (39, .inl (false, 22, (bkF s))), (40, .inl (false, 22, (bkF t))), (42, .inl (false, 60, f))] (fun v M => ∃ fr' rs' : Int32, M = [(38, .inr (7, [.ref 39, .ref 40, .int (sbu s), .int (nI q), .ref 41, .int (nI n), .ref 42, .int (wF ((wk f n 0 (wk0 s)).1)), .int (wG ((wk f n 0 (wk0 s)).1)), .int (wH ((wk f n 0 (wk0 s)).1)), .int fr', .int rs', .int (nI (wA ((wk f n 0 (wk0 s)).1))), .ref 43, .ref 44, .ref 45, .ref 46, .ref 47, .ref 48, .ref 49])), (39, .inl (false, 22, (bkF s))), (40, .inl (false, 22, (bkF (wS (wk f n 0 (wk0 s)).1)))), (42, .inl (false, 60, f))] ∧ v = some (.int (stA (wk f n 0 (wk0 s))))) := by
  intro hp
  by_cases hr : (wk f n 0 (wk0 s)).2 = 0
  · refine E_iload_n dX7_judge_0 rfl ?_
    refine E_iconst (v := 0) dX7_judge_1 (by decide) ?_
    refine E_iconst (v := 1) dX7_judge_2 (by decide) ?_
    refine E_callS (As := [.int 0, .int 0, .int 1]) (l' := [.int 0, .int 0, .int 1]) (st := []) dX7_judge_3 kX7_48 sX7_in MX7_in rfl rfl (Nat.le_of_ble_eq_true rfl) (FC.use (c_in (d + 6) _ _ _) rfl (L2 := [(38, .inr (7, [.ref 39, .ref 40, .int (sbu s), .int (nI q), .ref 41, .int (nI n), .ref 42, .int fl, .int fa, .int fw, .int fr, .int rs, .int ac, .ref 43, .ref 44, .ref 45, .ref 46, .ref 47, .ref 48, .ref 49])), (39, .inl (false, 22, (bkF s))), (40, .inl (false, 22, (bkF t))), (42, .inl (false, 60, f))]) rfl) (Nat.le_of_ble_eq_true rfl) (fun _ _ hq9 => E_fgo ?_ hq9)
    show E _ _ 6 [.ref 38, .int 0, .null] [.int (b2i (inI 0 0 1))] (hov hp [(38, .inr (7, [.ref 39, .ref 40, .int (sbu s), .int (nI q), .ref 41, .int (nI n), .ref 42, .int fl, .int fa, .int fw, .int fr, .int rs, .int ac, .ref 43, .ref 44, .ref 45, .ref 46, .ref 47, .ref 48, .ref 49])), (39, .inl (false, 22, (bkF s))), (40, .inl (false, 22, (bkF t))), (42, .inl (false, 60, f))]) _
    refine E_if_ne (tgt := 12) dX7_judge_6 (by decide) (fun _ => ?_) (fun c => (b2i_x1 (by decide) c).elim)
    refine E_aload_n dX7_judge_12 rfl ?_
    refine E_callV (As := []) (l' := [.ref 38, .null, .null, .null, .null, .null]) (st := []) dX7_judge_13 kX7_63 iX7_faultOf vX7_faultOf (by decide) rfl rfl MX7_faultOf rfl rfl (Nat.le_of_ble_eq_true rfl) (FC.use (m_faultOf (d + 5) (sbu s) fl fa fw fr rs ac q n f hn) rfl (L2 := [(38, .inr (7, [.ref 39, .ref 40, .int (sbu s), .int (nI q), .ref 41, .int (nI n), .ref 42, .int fl, .int fa, .int fw, .int fr, .int rs, .int ac, .ref 43, .ref 44, .ref 45, .ref 46, .ref 47, .ref 48, .ref 49])), (39, .inl (false, 22, (bkF s))), (40, .inl (false, 22, (bkF t))), (42, .inl (false, 60, f))]) rfl) (Nat.le_of_ble_eq_true rfl) (fun _ _ hq9 => E_fgo ?_ hq9)
    show E _ _ 16 [.ref 38, .int 0, .null] [.int (flt f n 0 false)] (hov hp [(38, .inr (7, [.ref 39, .ref 40, .int (sbu s), .int (nI q), .ref 41, .int (nI n), .ref 42, .int fl, .int fa, .int fw, .int fr, .int rs, .int ac, .ref 43, .ref 44, .ref 45, .ref 46, .ref 47, .ref 48, .ref 49])), (39, .inl (false, 22, (bkF s))), (40, .inl (false, 22, (bkF t))), (42, .inl (false, 60, f))]) _
    refine E_if_lt (tgt := 22) dX7_judge_16 (by decide) (fun _ => ?_) (fun c => absurd (by rw [hf]; decide) c)
    refine E_aload_n dX7_judge_22 rfl ?_
    refine E_callV (As := []) (l' := [.ref 38, .null, .null, .null]) (st := []) dX7_judge_23 kX7_117 iX7_goWeeks vX7_goWeeks (by decide) rfl rfl MX7_goWeeks rfl rfl (Nat.le_of_ble_eq_true rfl) (FR.use (m_goWeeks (d + 1) (sbu s) fl fa fw fr rs ac q n f hn s t hs hf) (L := [(38, .inr (7, [.ref 39, .ref 40, .int (sbu s), .int (nI q), .ref 41, .int (nI n), .ref 42, .int fl, .int fa, .int fw, .int fr, .int rs, .int ac, .ref 43, .ref 44, .ref 45, .ref 46, .ref 47, .ref 48, .ref 49])), (39, .inl (false, 22, (bkF s))), (40, .inl (false, 22, (bkF t))), (42, .inl (false, 60, f))]) rfl) (Nat.le_of_ble_eq_true rfl) ?_
    intro v9 h9 hq9
    obtain ⟨M, rfl, fr', rs', rfl, rfl, hrs⟩ := hq9
    show E _ _ 26 [.ref 38, .int 0, .null] [.int (stA (wk f n 0 (wk0 s)))] (hov hp [(38, .inr (7, [.ref 39, .ref 40, .int (sbu s), .int (nI q), .ref 41, .int (nI n), .ref 42, .int (wF ((wk f n 0 (wk0 s)).1)), .int (wG ((wk f n 0 (wk0 s)).1)), .int (wH ((wk f n 0 (wk0 s)).1)), .int fr', .int rs', .int (nI (wA ((wk f n 0 (wk0 s)).1))), .ref 43, .ref 44, .ref 45, .ref 46, .ref 47, .ref 48, .ref 49])), (39, .inl (false, 22, (bkF s))), (40, .inl (false, 22, (bkF (wS (wk f n 0 (wk0 s)).1)))), (42, .inl (false, 60, f))]) _
    refine E_eqi (y := (-6)) (stA_0 hr) ?_
    refine E_istore_n (l2 := [.ref 38, .int 0, .int (-6)]) dX7_judge_26 rfl (by decide) rfl ?_
    refine E_iload_n dX7_judge_27 rfl ?_
    refine E_if_lt (tgt := 35) dX7_judge_28 (by decide) (fun _ => ?_) (fun c => by first | exact absurd c (by decide) | exact absurd (by decide) c)
    refine E_iload_n dX7_judge_35 rfl ?_
    refine E_goto (tgt := 43) dX7_judge_36 (by decide) ?_
    exact E_iret (st := []) dX7_judge_43 rfl rfl ⟨_, rfl, fr', rs', rfl, congrArg (fun x => some (Value.int x)) (stA_0 hr).symm⟩
  · refine E_iload_n dX7_judge_0 rfl ?_
    refine E_iconst (v := 0) dX7_judge_1 (by decide) ?_
    refine E_iconst (v := 1) dX7_judge_2 (by decide) ?_
    refine E_callS (As := [.int 0, .int 0, .int 1]) (l' := [.int 0, .int 0, .int 1]) (st := []) dX7_judge_3 kX7_48 sX7_in MX7_in rfl rfl (Nat.le_of_ble_eq_true rfl) (FC.use (c_in (d + 6) _ _ _) rfl (L2 := [(38, .inr (7, [.ref 39, .ref 40, .int (sbu s), .int (nI q), .ref 41, .int (nI n), .ref 42, .int fl, .int fa, .int fw, .int fr, .int rs, .int ac, .ref 43, .ref 44, .ref 45, .ref 46, .ref 47, .ref 48, .ref 49])), (39, .inl (false, 22, (bkF s))), (40, .inl (false, 22, (bkF t))), (42, .inl (false, 60, f))]) rfl) (Nat.le_of_ble_eq_true rfl) (fun _ _ hq9 => E_fgo ?_ hq9)
    show E _ _ 6 [.ref 38, .int 0, .null] [.int (b2i (inI 0 0 1))] (hov hp [(38, .inr (7, [.ref 39, .ref 40, .int (sbu s), .int (nI q), .ref 41, .int (nI n), .ref 42, .int fl, .int fa, .int fw, .int fr, .int rs, .int ac, .ref 43, .ref 44, .ref 45, .ref 46, .ref 47, .ref 48, .ref 49])), (39, .inl (false, 22, (bkF s))), (40, .inl (false, 22, (bkF t))), (42, .inl (false, 60, f))]) _
    refine E_if_ne (tgt := 12) dX7_judge_6 (by decide) (fun _ => ?_) (fun c => (b2i_x1 (by decide) c).elim)
    refine E_aload_n dX7_judge_12 rfl ?_
    refine E_callV (As := []) (l' := [.ref 38, .null, .null, .null, .null, .null]) (st := []) dX7_judge_13 kX7_63 iX7_faultOf vX7_faultOf (by decide) rfl rfl MX7_faultOf rfl rfl (Nat.le_of_ble_eq_true rfl) (FC.use (m_faultOf (d + 5) (sbu s) fl fa fw fr rs ac q n f hn) rfl (L2 := [(38, .inr (7, [.ref 39, .ref 40, .int (sbu s), .int (nI q), .ref 41, .int (nI n), .ref 42, .int fl, .int fa, .int fw, .int fr, .int rs, .int ac, .ref 43, .ref 44, .ref 45, .ref 46, .ref 47, .ref 48, .ref 49])), (39, .inl (false, 22, (bkF s))), (40, .inl (false, 22, (bkF t))), (42, .inl (false, 60, f))]) rfl) (Nat.le_of_ble_eq_true rfl) (fun _ _ hq9 => E_fgo ?_ hq9)
    show E _ _ 16 [.ref 38, .int 0, .null] [.int (flt f n 0 false)] (hov hp [(38, .inr (7, [.ref 39, .ref 40, .int (sbu s), .int (nI q), .ref 41, .int (nI n), .ref 42, .int fl, .int fa, .int fw, .int fr, .int rs, .int ac, .ref 43, .ref 44, .ref 45, .ref 46, .ref 47, .ref 48, .ref 49])), (39, .inl (false, 22, (bkF s))), (40, .inl (false, 22, (bkF t))), (42, .inl (false, 60, f))]) _
    refine E_if_lt (tgt := 22) dX7_judge_16 (by decide) (fun _ => ?_) (fun c => absurd (by rw [hf]; decide) c)
    refine E_aload_n dX7_judge_22 rfl ?_
    refine E_callV (As := []) (l' := [.ref 38, .null, .null, .null]) (st := []) dX7_judge_23 kX7_117 iX7_goWeeks vX7_goWeeks (by decide) rfl rfl MX7_goWeeks rfl rfl (Nat.le_of_ble_eq_true rfl) (FR.use (m_goWeeks (d + 1) (sbu s) fl fa fw fr rs ac q n f hn s t hs hf) (L := [(38, .inr (7, [.ref 39, .ref 40, .int (sbu s), .int (nI q), .ref 41, .int (nI n), .ref 42, .int fl, .int fa, .int fw, .int fr, .int rs, .int ac, .ref 43, .ref 44, .ref 45, .ref 46, .ref 47, .ref 48, .ref 49])), (39, .inl (false, 22, (bkF s))), (40, .inl (false, 22, (bkF t))), (42, .inl (false, 60, f))]) rfl) (Nat.le_of_ble_eq_true rfl) ?_
    intro v9 h9 hq9
    obtain ⟨M, rfl, fr', rs', rfl, rfl, hrs⟩ := hq9
    show E _ _ 26 [.ref 38, .int 0, .null] [.int (stA (wk f n 0 (wk0 s)))] (hov hp [(38, .inr (7, [.ref 39, .ref 40, .int (sbu s), .int (nI q), .ref 41, .int (nI n), .ref 42, .int (wF ((wk f n 0 (wk0 s)).1)), .int (wG ((wk f n 0 (wk0 s)).1)), .int (wH ((wk f n 0 (wk0 s)).1)), .int fr', .int rs', .int (nI (wA ((wk f n 0 (wk0 s)).1))), .ref 43, .ref 44, .ref 45, .ref 46, .ref 47, .ref 48, .ref 49])), (39, .inl (false, 22, (bkF s))), (40, .inl (false, 22, (bkF (wS (wk f n 0 (wk0 s)).1)))), (42, .inl (false, 60, f))]) _
    refine E_eqi (y := nI (wA (wk f n 0 (wk0 s)).1)) (stA_1 hr) ?_
    refine E_istore_n (l2 := [.ref 38, .int 0, .int (nI (wA (wk f n 0 (wk0 s)).1))]) dX7_judge_26 rfl (by decide) rfl ?_
    refine E_iload_n dX7_judge_27 rfl ?_
    refine E_if_lt (tgt := 35) dX7_judge_28 (by decide) (fun c => absurd c (nI_pos (by have := wk_acts (f := f) n 0 (wk0 s); rw [show wA (wk0 s) = 0 from rfl] at this; omega))) (fun _ => ?_)
    refine E_iload_n dX7_judge_31 rfl ?_
    refine E_if_ne (tgt := 39) dX7_judge_32 (by decide) (fun c => by first | exact absurd c (by decide) | exact absurd (by decide) c) (fun _ => ?_)
    refine E_iload_n dX7_judge_35 rfl ?_
    refine E_goto (tgt := 43) dX7_judge_36 (by decide) ?_
    exact E_iret (st := []) dX7_judge_43 rfl rfl ⟨_, rfl, fr', rs', rfl, congrArg (fun x => some (Value.int x)) (stA_1 hr).symm⟩

set_option maxHeartbeats 4000000 in
set_option maxRecDepth 20000 in
theorem m_judge_1 (d : Nat) (fl fa fw fr rs ac : Int32) (q n : Nat) (f : Nat → Int32) (hn : n ≤ 60) (s t : CS) (hs : OkS s) (hf : flt f n 0 false = -6) : FR YX7_judge (d + 7) [.ref 38, .int 1, .null] [(38, .inr (7, [.ref 39, .ref 40, .int (sbu s), .int (nI q), .ref 41, .int (nI n), .ref 42, .int fl, .int fa, .int fw, .int fr, .int rs, .int ac, .ref 43, .ref 44, .ref 45, .ref 46, .ref 47, .ref 48, .ref 49])), (39, .inl (false, 22, (bkF s))), (40, .inl (false, 22, (bkF t))), (42, .inl (false, 60, f))] (fun v M => ∃ fr' rs' : Int32, M = [(38, .inr (7, [.ref 39, .ref 40, .int (sbu s), .int (nI q), .ref 41, .int (nI n), .ref 42, .int (wF ((wk f n 0 (wk0 s)).1)), .int (wG ((wk f n 0 (wk0 s)).1)), .int (wH ((wk f n 0 (wk0 s)).1)), .int fr', .int rs', .int (nI (wA ((wk f n 0 (wk0 s)).1))), .ref 43, .ref 44, .ref 45, .ref 46, .ref 47, .ref 48, .ref 49])), (39, .inl (false, 22, (bkF s))), (40, .inl (false, 22, (bkF (wS (wk f n 0 (wk0 s)).1)))), (42, .inl (false, 60, f))] ∧ v = some (.int (stW (wk f n 0 (wk0 s))))) := by
  intro hp
  by_cases hr : (wk f n 0 (wk0 s)).2 = 0
  · refine E_iload_n dX7_judge_0 rfl ?_
    refine E_iconst (v := 0) dX7_judge_1 (by decide) ?_
    refine E_iconst (v := 1) dX7_judge_2 (by decide) ?_
    refine E_callS (As := [.int 1, .int 0, .int 1]) (l' := [.int 1, .int 0, .int 1]) (st := []) dX7_judge_3 kX7_48 sX7_in MX7_in rfl rfl (Nat.le_of_ble_eq_true rfl) (FC.use (c_in (d + 6) _ _ _) rfl (L2 := [(38, .inr (7, [.ref 39, .ref 40, .int (sbu s), .int (nI q), .ref 41, .int (nI n), .ref 42, .int fl, .int fa, .int fw, .int fr, .int rs, .int ac, .ref 43, .ref 44, .ref 45, .ref 46, .ref 47, .ref 48, .ref 49])), (39, .inl (false, 22, (bkF s))), (40, .inl (false, 22, (bkF t))), (42, .inl (false, 60, f))]) rfl) (Nat.le_of_ble_eq_true rfl) (fun _ _ hq9 => E_fgo ?_ hq9)
    show E _ _ 6 [.ref 38, .int 1, .null] [.int (b2i (inI 1 0 1))] (hov hp [(38, .inr (7, [.ref 39, .ref 40, .int (sbu s), .int (nI q), .ref 41, .int (nI n), .ref 42, .int fl, .int fa, .int fw, .int fr, .int rs, .int ac, .ref 43, .ref 44, .ref 45, .ref 46, .ref 47, .ref 48, .ref 49])), (39, .inl (false, 22, (bkF s))), (40, .inl (false, 22, (bkF t))), (42, .inl (false, 60, f))]) _
    refine E_if_ne (tgt := 12) dX7_judge_6 (by decide) (fun _ => ?_) (fun c => (b2i_x1 (by decide) c).elim)
    refine E_aload_n dX7_judge_12 rfl ?_
    refine E_callV (As := []) (l' := [.ref 38, .null, .null, .null, .null, .null]) (st := []) dX7_judge_13 kX7_63 iX7_faultOf vX7_faultOf (by decide) rfl rfl MX7_faultOf rfl rfl (Nat.le_of_ble_eq_true rfl) (FC.use (m_faultOf (d + 5) (sbu s) fl fa fw fr rs ac q n f hn) rfl (L2 := [(38, .inr (7, [.ref 39, .ref 40, .int (sbu s), .int (nI q), .ref 41, .int (nI n), .ref 42, .int fl, .int fa, .int fw, .int fr, .int rs, .int ac, .ref 43, .ref 44, .ref 45, .ref 46, .ref 47, .ref 48, .ref 49])), (39, .inl (false, 22, (bkF s))), (40, .inl (false, 22, (bkF t))), (42, .inl (false, 60, f))]) rfl) (Nat.le_of_ble_eq_true rfl) (fun _ _ hq9 => E_fgo ?_ hq9)
    show E _ _ 16 [.ref 38, .int 1, .null] [.int (flt f n 0 false)] (hov hp [(38, .inr (7, [.ref 39, .ref 40, .int (sbu s), .int (nI q), .ref 41, .int (nI n), .ref 42, .int fl, .int fa, .int fw, .int fr, .int rs, .int ac, .ref 43, .ref 44, .ref 45, .ref 46, .ref 47, .ref 48, .ref 49])), (39, .inl (false, 22, (bkF s))), (40, .inl (false, 22, (bkF t))), (42, .inl (false, 60, f))]) _
    refine E_if_lt (tgt := 22) dX7_judge_16 (by decide) (fun _ => ?_) (fun c => absurd (by rw [hf]; decide) c)
    refine E_aload_n dX7_judge_22 rfl ?_
    refine E_callV (As := []) (l' := [.ref 38, .null, .null, .null]) (st := []) dX7_judge_23 kX7_117 iX7_goWeeks vX7_goWeeks (by decide) rfl rfl MX7_goWeeks rfl rfl (Nat.le_of_ble_eq_true rfl) (FR.use (m_goWeeks (d + 1) (sbu s) fl fa fw fr rs ac q n f hn s t hs hf) (L := [(38, .inr (7, [.ref 39, .ref 40, .int (sbu s), .int (nI q), .ref 41, .int (nI n), .ref 42, .int fl, .int fa, .int fw, .int fr, .int rs, .int ac, .ref 43, .ref 44, .ref 45, .ref 46, .ref 47, .ref 48, .ref 49])), (39, .inl (false, 22, (bkF s))), (40, .inl (false, 22, (bkF t))), (42, .inl (false, 60, f))]) rfl) (Nat.le_of_ble_eq_true rfl) ?_
    intro v9 h9 hq9
    obtain ⟨M, rfl, fr', rs', rfl, rfl, hrs⟩ := hq9
    show E _ _ 26 [.ref 38, .int 1, .null] [.int (stA (wk f n 0 (wk0 s)))] (hov hp [(38, .inr (7, [.ref 39, .ref 40, .int (sbu s), .int (nI q), .ref 41, .int (nI n), .ref 42, .int (wF ((wk f n 0 (wk0 s)).1)), .int (wG ((wk f n 0 (wk0 s)).1)), .int (wH ((wk f n 0 (wk0 s)).1)), .int fr', .int rs', .int (nI (wA ((wk f n 0 (wk0 s)).1))), .ref 43, .ref 44, .ref 45, .ref 46, .ref 47, .ref 48, .ref 49])), (39, .inl (false, 22, (bkF s))), (40, .inl (false, 22, (bkF (wS (wk f n 0 (wk0 s)).1)))), (42, .inl (false, 60, f))]) _
    refine E_eqi (y := (-6)) (stA_0 hr) ?_
    refine E_istore_n (l2 := [.ref 38, .int 1, .int (-6)]) dX7_judge_26 rfl (by decide) rfl ?_
    refine E_iload_n dX7_judge_27 rfl ?_
    refine E_if_lt (tgt := 35) dX7_judge_28 (by decide) (fun _ => ?_) (fun c => by first | exact absurd c (by decide) | exact absurd (by decide) c)
    refine E_iload_n dX7_judge_35 rfl ?_
    refine E_goto (tgt := 43) dX7_judge_36 (by decide) ?_
    exact E_iret (st := []) dX7_judge_43 rfl rfl ⟨_, rfl, fr', rs', rfl, congrArg (fun x => some (Value.int x)) (stW_0 hr).symm⟩
  · refine E_iload_n dX7_judge_0 rfl ?_
    refine E_iconst (v := 0) dX7_judge_1 (by decide) ?_
    refine E_iconst (v := 1) dX7_judge_2 (by decide) ?_
    refine E_callS (As := [.int 1, .int 0, .int 1]) (l' := [.int 1, .int 0, .int 1]) (st := []) dX7_judge_3 kX7_48 sX7_in MX7_in rfl rfl (Nat.le_of_ble_eq_true rfl) (FC.use (c_in (d + 6) _ _ _) rfl (L2 := [(38, .inr (7, [.ref 39, .ref 40, .int (sbu s), .int (nI q), .ref 41, .int (nI n), .ref 42, .int fl, .int fa, .int fw, .int fr, .int rs, .int ac, .ref 43, .ref 44, .ref 45, .ref 46, .ref 47, .ref 48, .ref 49])), (39, .inl (false, 22, (bkF s))), (40, .inl (false, 22, (bkF t))), (42, .inl (false, 60, f))]) rfl) (Nat.le_of_ble_eq_true rfl) (fun _ _ hq9 => E_fgo ?_ hq9)
    show E _ _ 6 [.ref 38, .int 1, .null] [.int (b2i (inI 1 0 1))] (hov hp [(38, .inr (7, [.ref 39, .ref 40, .int (sbu s), .int (nI q), .ref 41, .int (nI n), .ref 42, .int fl, .int fa, .int fw, .int fr, .int rs, .int ac, .ref 43, .ref 44, .ref 45, .ref 46, .ref 47, .ref 48, .ref 49])), (39, .inl (false, 22, (bkF s))), (40, .inl (false, 22, (bkF t))), (42, .inl (false, 60, f))]) _
    refine E_if_ne (tgt := 12) dX7_judge_6 (by decide) (fun _ => ?_) (fun c => (b2i_x1 (by decide) c).elim)
    refine E_aload_n dX7_judge_12 rfl ?_
    refine E_callV (As := []) (l' := [.ref 38, .null, .null, .null, .null, .null]) (st := []) dX7_judge_13 kX7_63 iX7_faultOf vX7_faultOf (by decide) rfl rfl MX7_faultOf rfl rfl (Nat.le_of_ble_eq_true rfl) (FC.use (m_faultOf (d + 5) (sbu s) fl fa fw fr rs ac q n f hn) rfl (L2 := [(38, .inr (7, [.ref 39, .ref 40, .int (sbu s), .int (nI q), .ref 41, .int (nI n), .ref 42, .int fl, .int fa, .int fw, .int fr, .int rs, .int ac, .ref 43, .ref 44, .ref 45, .ref 46, .ref 47, .ref 48, .ref 49])), (39, .inl (false, 22, (bkF s))), (40, .inl (false, 22, (bkF t))), (42, .inl (false, 60, f))]) rfl) (Nat.le_of_ble_eq_true rfl) (fun _ _ hq9 => E_fgo ?_ hq9)
    show E _ _ 16 [.ref 38, .int 1, .null] [.int (flt f n 0 false)] (hov hp [(38, .inr (7, [.ref 39, .ref 40, .int (sbu s), .int (nI q), .ref 41, .int (nI n), .ref 42, .int fl, .int fa, .int fw, .int fr, .int rs, .int ac, .ref 43, .ref 44, .ref 45, .ref 46, .ref 47, .ref 48, .ref 49])), (39, .inl (false, 22, (bkF s))), (40, .inl (false, 22, (bkF t))), (42, .inl (false, 60, f))]) _
    refine E_if_lt (tgt := 22) dX7_judge_16 (by decide) (fun _ => ?_) (fun c => absurd (by rw [hf]; decide) c)
    refine E_aload_n dX7_judge_22 rfl ?_
    refine E_callV (As := []) (l' := [.ref 38, .null, .null, .null]) (st := []) dX7_judge_23 kX7_117 iX7_goWeeks vX7_goWeeks (by decide) rfl rfl MX7_goWeeks rfl rfl (Nat.le_of_ble_eq_true rfl) (FR.use (m_goWeeks (d + 1) (sbu s) fl fa fw fr rs ac q n f hn s t hs hf) (L := [(38, .inr (7, [.ref 39, .ref 40, .int (sbu s), .int (nI q), .ref 41, .int (nI n), .ref 42, .int fl, .int fa, .int fw, .int fr, .int rs, .int ac, .ref 43, .ref 44, .ref 45, .ref 46, .ref 47, .ref 48, .ref 49])), (39, .inl (false, 22, (bkF s))), (40, .inl (false, 22, (bkF t))), (42, .inl (false, 60, f))]) rfl) (Nat.le_of_ble_eq_true rfl) ?_
    intro v9 h9 hq9
    obtain ⟨M, rfl, fr', rs', rfl, rfl, hrs⟩ := hq9
    show E _ _ 26 [.ref 38, .int 1, .null] [.int (stA (wk f n 0 (wk0 s)))] (hov hp [(38, .inr (7, [.ref 39, .ref 40, .int (sbu s), .int (nI q), .ref 41, .int (nI n), .ref 42, .int (wF ((wk f n 0 (wk0 s)).1)), .int (wG ((wk f n 0 (wk0 s)).1)), .int (wH ((wk f n 0 (wk0 s)).1)), .int fr', .int rs', .int (nI (wA ((wk f n 0 (wk0 s)).1))), .ref 43, .ref 44, .ref 45, .ref 46, .ref 47, .ref 48, .ref 49])), (39, .inl (false, 22, (bkF s))), (40, .inl (false, 22, (bkF (wS (wk f n 0 (wk0 s)).1)))), (42, .inl (false, 60, f))]) _
    refine E_eqi (y := nI (wA (wk f n 0 (wk0 s)).1)) (stA_1 hr) ?_
    refine E_istore_n (l2 := [.ref 38, .int 1, .int (nI (wA (wk f n 0 (wk0 s)).1))]) dX7_judge_26 rfl (by decide) rfl ?_
    refine E_iload_n dX7_judge_27 rfl ?_
    refine E_if_lt (tgt := 35) dX7_judge_28 (by decide) (fun c => absurd c (nI_pos (by have := wk_acts (f := f) n 0 (wk0 s); rw [show wA (wk0 s) = 0 from rfl] at this; omega))) (fun _ => ?_)
    refine E_iload_n dX7_judge_31 rfl ?_
    refine E_if_ne (tgt := 39) dX7_judge_32 (by decide) (fun _ => ?_) (fun c => by first | exact absurd c (by decide) | exact absurd (by decide) c)
    refine E_aload_n dX7_judge_39 rfl ?_
    refine E_get dX7_judge_40 fX7_102 (by decide) rfl rfl ?_
    refine E_eqi (y := (wk f n 0 (wk0 s)).2) (hrs hr) ?_
    exact E_iret (st := []) dX7_judge_43 rfl rfl ⟨_, rfl, fr', rs', rfl, congrArg (fun x => some (Value.int x)) (stW_1 hr).symm⟩

set_option maxHeartbeats 4000000 in
set_option maxRecDepth 20000 in
theorem m_done_f (d : Nat) (fl fa fw fr rs ac : Int32) (q n : Nat) (f : Nat → Int32) (hn : n ≤ 60) (s t : CS) (hs : OkS s) (hf : ¬ flt f n 0 false = -6) : FC YX7_done (d + 7) [.ref 38, .null] [(38, .inr (7, [.ref 39, .ref 40, .int (sbu s), .int (nI q), .ref 41, .int (nI n), .ref 42, .int fl, .int fa, .int fw, .int fr, .int rs, .int ac, .ref 43, .ref 44, .ref 45, .ref 46, .ref 47, .ref 48, .ref 49])), (39, .inl (false, 22, (bkF s))), (40, .inl (false, 22, (bkF t))), (42, .inl (false, 60, f))] (some (.int (-5))) [(38, .inr (7, [.ref 39, .ref 40, .int (sbu s), .int (nI q), .ref 41, .int (nI n), .ref 42, .int fl, .int fa, .int fw, .int fr, .int rs, .int ac, .ref 43, .ref 44, .ref 45, .ref 46, .ref 47, .ref 48, .ref 49])), (39, .inl (false, 22, (bkF s))), (40, .inl (false, 22, (bkF t))), (42, .inl (false, 60, f))] := by
  intro hp
  refine E_aload_n dX7_done_0 rfl ?_
  refine E_callV (As := []) (l' := [.ref 38]) (st := []) dX7_done_1 kX7_120 iX7_barOfWeeks vX7_barOfWeeks (by decide) rfl rfl MX7_barOfWeeks rfl rfl (Nat.le_of_ble_eq_true rfl) (FC.use (m_bar_f d fl fa fw fr rs ac q n f hn s t hs hf) rfl (L2 := [(38, .inr (7, [.ref 39, .ref 40, .int (sbu s), .int (nI q), .ref 41, .int (nI n), .ref 42, .int fl, .int fa, .int fw, .int fr, .int rs, .int ac, .ref 43, .ref 44, .ref 45, .ref 46, .ref 47, .ref 48, .ref 49])), (39, .inl (false, 22, (bkF s))), (40, .inl (false, 22, (bkF t))), (42, .inl (false, 60, f))]) rfl) (Nat.le_of_ble_eq_true rfl) (fun _ _ hq9 => E_fgo ?_ hq9)
  show E _ _ 4 [.ref 38, .null] [.int (-5)] (hov hp [(38, .inr (7, [.ref 39, .ref 40, .int (sbu s), .int (nI q), .ref 41, .int (nI n), .ref 42, .int fl, .int fa, .int fw, .int fr, .int rs, .int ac, .ref 43, .ref 44, .ref 45, .ref 46, .ref 47, .ref 48, .ref 49])), (39, .inl (false, 22, (bkF s))), (40, .inl (false, 22, (bkF t))), (42, .inl (false, 60, f))]) _
  refine E_if_ge (tgt := 10) dX7_done_4 (by decide) (fun c => by first | exact absurd c (by decide) | exact absurd (by decide) c) (fun _ => ?_)
  refine E_bipush (v := (-5)) dX7_done_7 (by decide) ?_
  exact E_iretf dX7_done_9 rfl rfl rfl rfl

set_option maxHeartbeats 4000000 in
set_option maxRecDepth 20000 in
theorem m_done_n (d : Nat) (fl fa fw fr rs ac : Int32) (q n : Nat) (f : Nat → Int32) (hn : n ≤ 60) (s t : CS) (hs : OkS s) (hf : flt f n 0 false = -6) (hr : ¬ (wk f n 0 (wk0 s)).2 = 0) : FR YX7_done (d + 7) [.ref 38, .null] [(38, .inr (7, [.ref 39, .ref 40, .int (sbu s), .int (nI q), .ref 41, .int (nI n), .ref 42, .int fl, .int fa, .int fw, .int fr, .int rs, .int ac, .ref 43, .ref 44, .ref 45, .ref 46, .ref 47, .ref 48, .ref 49])), (39, .inl (false, 22, (bkF s))), (40, .inl (false, 22, (bkF t))), (42, .inl (false, 60, f))] (fun v M => ∃ fr' rs' : Int32, M = [(38, .inr (7, [.ref 39, .ref 40, .int (sbu s), .int (nI q), .ref 41, .int (nI n), .ref 42, .int (wF ((wk f n 0 (wk0 s)).1)), .int (wG ((wk f n 0 (wk0 s)).1)), .int (wH ((wk f n 0 (wk0 s)).1)), .int fr', .int rs', .int (nI (wA ((wk f n 0 (wk0 s)).1))), .ref 43, .ref 44, .ref 45, .ref 46, .ref 47, .ref 48, .ref 49])), (39, .inl (false, 22, (bkF s))), (40, .inl (false, 22, (bkF (wS (wk f n 0 (wk0 s)).1)))), (42, .inl (false, 60, f))] ∧ v = some (.int (-5))) := by
  intro hp
  refine E_aload_n dX7_done_0 rfl ?_
  refine E_callV (As := []) (l' := [.ref 38]) (st := []) dX7_done_1 kX7_120 iX7_barOfWeeks vX7_barOfWeeks (by decide) rfl rfl MX7_barOfWeeks rfl rfl (Nat.le_of_ble_eq_true rfl) (FR.use (m_bar_0 d fl fa fw fr rs ac q n f hn s t hs hf hr) (L := [(38, .inr (7, [.ref 39, .ref 40, .int (sbu s), .int (nI q), .ref 41, .int (nI n), .ref 42, .int fl, .int fa, .int fw, .int fr, .int rs, .int ac, .ref 43, .ref 44, .ref 45, .ref 46, .ref 47, .ref 48, .ref 49])), (39, .inl (false, 22, (bkF s))), (40, .inl (false, 22, (bkF t))), (42, .inl (false, 60, f))]) rfl) (Nat.le_of_ble_eq_true rfl) ?_
  intro v9 h9 hq9
  obtain ⟨M, rfl, fr', rs', rfl, rfl⟩ := hq9
  show E _ _ 4 [.ref 38, .null] [.int (-5)] (hov hp [(38, .inr (7, [.ref 39, .ref 40, .int (sbu s), .int (nI q), .ref 41, .int (nI n), .ref 42, .int (wF ((wk f n 0 (wk0 s)).1)), .int (wG ((wk f n 0 (wk0 s)).1)), .int (wH ((wk f n 0 (wk0 s)).1)), .int fr', .int rs', .int (nI (wA ((wk f n 0 (wk0 s)).1))), .ref 43, .ref 44, .ref 45, .ref 46, .ref 47, .ref 48, .ref 49])), (39, .inl (false, 22, (bkF s))), (40, .inl (false, 22, (bkF (wS (wk f n 0 (wk0 s)).1)))), (42, .inl (false, 60, f))]) _
  refine E_if_ge (tgt := 10) dX7_done_4 (by decide) (fun c => by first | exact absurd c (by decide) | exact absurd (by decide) c) (fun _ => ?_)
  refine E_bipush (v := (-5)) dX7_done_7 (by decide) ?_
  exact E_iret (st := []) dX7_done_9 rfl rfl ⟨_, rfl, fr', rs', rfl, rfl⟩

set_option maxHeartbeats 4000000 in
set_option maxRecDepth 20000 in
theorem m_done_ok (d : Nat) (fl fa fw fr rs ac : Int32) (q n : Nat) (f : Nat → Int32) (hn : n ≤ 60) (s t : CS) (hs : OkS s) (hf : flt f n 0 false = -6) (hr : (wk f n 0 (wk0 s)).2 = 0) : FR YX7_done (d + 7) [.ref 38, .null] [(38, .inr (7, [.ref 39, .ref 40, .int (sbu s), .int (nI q), .ref 41, .int (nI n), .ref 42, .int fl, .int fa, .int fw, .int fr, .int rs, .int ac, .ref 43, .ref 44, .ref 45, .ref 46, .ref 47, .ref 48, .ref 49])), (39, .inl (false, 22, (bkF s))), (40, .inl (false, 22, (bkF t))), (42, .inl (false, 60, f))] (fun v M => ∃ fr' rs' : Int32, M = [(38, .inr (7, [.ref 39, .ref 40, .int (sbu s), .int (nI q), .ref 41, .int (nI 0), .ref 42, .int (wF ((wk f n 0 (wk0 s)).1)), .int (wG ((wk f n 0 (wk0 s)).1)), .int (wH ((wk f n 0 (wk0 s)).1)), .int fr', .int rs', .int (nI (wA ((wk f n 0 (wk0 s)).1))), .ref 43, .ref 44, .ref 45, .ref 46, .ref 47, .ref 48, .ref 49])), (39, .inl (false, 22, (bkF (wS (wk f n 0 (wk0 s)).1)))), (40, .inl (false, 22, (bkF (wS (wk f n 0 (wk0 s)).1)))), (42, .inl (false, 60, f))] ∧ v = some (.int (nI (wA (wk f n 0 (wk0 s)).1)))) := by
  intro hp
  refine E_aload_n dX7_done_0 rfl ?_
  refine E_callV (As := []) (l' := [.ref 38]) (st := []) dX7_done_1 kX7_120 iX7_barOfWeeks vX7_barOfWeeks (by decide) rfl rfl MX7_barOfWeeks rfl rfl (Nat.le_of_ble_eq_true rfl) (FR.use (m_bar_1 d fl fa fw fr rs ac q n f hn s t hs hf hr) (L := [(38, .inr (7, [.ref 39, .ref 40, .int (sbu s), .int (nI q), .ref 41, .int (nI n), .ref 42, .int fl, .int fa, .int fw, .int fr, .int rs, .int ac, .ref 43, .ref 44, .ref 45, .ref 46, .ref 47, .ref 48, .ref 49])), (39, .inl (false, 22, (bkF s))), (40, .inl (false, 22, (bkF t))), (42, .inl (false, 60, f))]) rfl) (Nat.le_of_ble_eq_true rfl) ?_
  intro v9 h9 hq9
  obtain ⟨M, rfl, fr', rs', rfl, rfl⟩ := hq9
  show E _ _ 4 [.ref 38, .null] [.int 0] (hov hp [(38, .inr (7, [.ref 39, .ref 40, .int (sbu s), .int (nI q), .ref 41, .int (nI n), .ref 42, .int (wF ((wk f n 0 (wk0 s)).1)), .int (wG ((wk f n 0 (wk0 s)).1)), .int (wH ((wk f n 0 (wk0 s)).1)), .int fr', .int rs', .int (nI (wA ((wk f n 0 (wk0 s)).1))), .ref 43, .ref 44, .ref 45, .ref 46, .ref 47, .ref 48, .ref 49])), (39, .inl (false, 22, (bkF s))), (40, .inl (false, 22, (bkF (wS (wk f n 0 (wk0 s)).1)))), (42, .inl (false, 60, f))]) _
  refine E_if_ge (tgt := 10) dX7_done_4 (by decide) (fun _ => ?_) (fun c => by first | exact absurd c (by decide) | exact absurd (by decide) c)
  refine E_iconst (v := 0) dX7_done_10 (by decide) ?_
  refine E_istore_n (l2 := [.ref 38, .int 0]) dX7_done_11 rfl (by decide) rfl ?_
  have L : ∀ i, i ≤ 22 → E YX7_done (d + 7) 12 [.ref 38, .int (nI i)] [] (hov hp [(38, .inr (7, [.ref 39, .ref 40, .int (sbu s), .int (nI q), .ref 41, .int (nI n), .ref 42, .int (wF ((wk f n 0 (wk0 s)).1)), .int (wG ((wk f n 0 (wk0 s)).1)), .int (wH ((wk f n 0 (wk0 s)).1)), .int fr', .int rs', .int (nI (wA ((wk f n 0 (wk0 s)).1))), .ref 43, .ref 44, .ref 45, .ref 46, .ref 47, .ref 48, .ref 49])), (39, .inl (false, 22, (cpy (bkF s) (bkF (wS (wk f n 0 (wk0 s)).1)) i))), (40, .inl (false, 22, (bkF (wS (wk f n 0 (wk0 s)).1)))), (42, .inl (false, 60, f))]) (fun v h' => ∃ M, h' = hov hp M ∧ (fun v M => ∃ fr' rs' : Int32, M = [(38, .inr (7, [.ref 39, .ref 40, .int (sbu s), .int (nI q), .ref 41, .int (nI 0), .ref 42, .int (wF ((wk f n 0 (wk0 s)).1)), .int (wG ((wk f n 0 (wk0 s)).1)), .int (wH ((wk f n 0 (wk0 s)).1)), .int fr', .int rs', .int (nI (wA ((wk f n 0 (wk0 s)).1))), .ref 43, .ref 44, .ref 45, .ref 46, .ref 47, .ref 48, .ref 49])), (39, .inl (false, 22, (bkF (wS (wk f n 0 (wk0 s)).1)))), (40, .inl (false, 22, (bkF (wS (wk f n 0 (wk0 s)).1)))), (42, .inl (false, 60, f))] ∧ v = some (.int (nI (wA (wk f n 0 (wk0 s)).1)))) v M) := by
    refine down 22 ?_ ?_
    · refine E_iload_n dX7_done_12 rfl ?_
      refine E_bipush (v := 22) dX7_done_13 (by decide) ?_
      refine E_icmp_ge (tgt := 36) dX7_done_15 (by decide) (fun _ => ?_) (fun c => absurd (by decide) c)
      refine E_aload_n dX7_done_36 rfl ?_
      refine E_iconst (v := 0) dX7_done_37 (by decide) ?_
      refine E_puti (fs2 := [.ref 39, .ref 40, .int (sbu s), .int (nI q), .ref 41, .int 0, .ref 42, .int (wF ((wk f n 0 (wk0 s)).1)), .int (wG ((wk f n 0 (wk0 s)).1)), .int (wH ((wk f n 0 (wk0 s)).1)), .int fr', .int rs', .int (nI (wA ((wk f n 0 (wk0 s)).1))), .ref 43, .ref 44, .ref 45, .ref 46, .ref 47, .ref 48, .ref 49]) (L2 := [(38, .inr (7, [.ref 39, .ref 40, .int (sbu s), .int (nI q), .ref 41, .int 0, .ref 42, .int (wF ((wk f n 0 (wk0 s)).1)), .int (wG ((wk f n 0 (wk0 s)).1)), .int (wH ((wk f n 0 (wk0 s)).1)), .int fr', .int rs', .int (nI (wA ((wk f n 0 (wk0 s)).1))), .ref 43, .ref 44, .ref 45, .ref 46, .ref 47, .ref 48, .ref 49])), (39, .inl (false, 22, (cpy (bkF s) (bkF (wS (wk f n 0 (wk0 s)).1)) 22))), (40, .inl (false, 22, (bkF (wS (wk f n 0 (wk0 s)).1)))), (42, .inl (false, 60, f))]) dX7_done_38 fX7_60 fpX7_5 (by decide) rfl (Nat.le_of_ble_eq_true rfl) rfl rfl ?_
      refine E_aload_n dX7_done_41 rfl ?_
      refine E_get dX7_done_42 fX7_96 (by decide) rfl rfl ?_
      rw [cpy_all (fun j hj => (bk_out hj).trans (bk_out hj).symm)]
      exact E_iret (st := []) dX7_done_45 rfl rfl ⟨_, rfl, fr', rs', rfl, rfl⟩
    · intro i hi ih
      refine E_iload_n dX7_done_12 rfl ?_
      refine E_bipush (v := 22) dX7_done_13 (by decide) ?_
      refine E_icmp_ge (tgt := 36) dX7_done_15 (by decide) (fun c => absurd c (cI_nle (n := 22) rfl hi (by decide))) (fun _ => ?_)
      refine E_aload_n dX7_done_18 rfl ?_
      refine E_get dX7_done_19 fX7_7 (by decide) rfl rfl ?_
      refine E_iload_n dX7_done_22 rfl ?_
      refine E_aload_n dX7_done_23 rfl ?_
      refine E_get dX7_done_24 fX7_13 (by decide) rfl rfl ?_
      refine E_iload_n dX7_done_27 rfl ?_
      refine E_ialdN (j := i) dX7_done_28 (by decide) rfl (by omega) (by decide) ?_
      refine E_iastN (j := i) (f2 := cpy (bkF s) (bkF (wS (wk f n 0 (wk0 s)).1)) (i + 1)) (L2 := [(38, .inr (7, [.ref 39, .ref 40, .int (sbu s), .int (nI q), .ref 41, .int (nI n), .ref 42, .int (wF ((wk f n 0 (wk0 s)).1)), .int (wG ((wk f n 0 (wk0 s)).1)), .int (wH ((wk f n 0 (wk0 s)).1)), .int fr', .int rs', .int (nI (wA ((wk f n 0 (wk0 s)).1))), .ref 43, .ref 44, .ref 45, .ref 46, .ref 47, .ref 48, .ref 49])), (39, .inl (false, 22, (cpy (bkF s) (bkF (wS (wk f n 0 (wk0 s)).1)) (i + 1)))), (40, .inl (false, 22, (bkF (wS (wk f n 0 (wk0 s)).1)))), (42, .inl (false, 60, f))]) dX7_done_29 (by decide) rfl (by omega) (by decide) (cpy_s _ _ _) rfl ?_
      refine E_iinc (y := nI (i + 1)) (l2 := [.ref 38, .int (nI (i + 1))]) dX7_done_30 rfl (nI_1 _) (by decide) rfl ?_
      refine E_goto (tgt := 12) dX7_done_33 (by decide) ?_
      exact ih
  have e0 := L 0 (by decide)
  rw [cpy_0] at e0
  exact e0

set_option maxHeartbeats 4000000 in
set_option maxRecDepth 20000 in
theorem m_beh_unk (d : Nat) (bu fl fa fw fr rs ac : Int32) (q n : Nat) (x v : Int32) (hx : inI x 0 5 = false) : FC YX7_behind (d + 7) [.ref 38, .int x, .int v] [(38, .inr (7, [.ref 39, .ref 40, .int bu, .int (nI q), .ref 41, .int (nI n), .ref 42, .int fl, .int fa, .int fw, .int fr, .int rs, .int ac, .ref 43, .ref 44, .ref 45, .ref 46, .ref 47, .ref 48, .ref 49]))] (some (.int (-1))) [(38, .inr (7, [.ref 39, .ref 40, .int bu, .int (nI q), .ref 41, .int (nI n), .ref 42, .int fl, .int fa, .int fw, .int fr, .int rs, .int ac, .ref 43, .ref 44, .ref 45, .ref 46, .ref 47, .ref 48, .ref 49]))] := by
  intro hp
  refine E_iload_n dX7_behind_0 rfl ?_
  refine E_callS (As := [.int x]) (l' := [.int x]) (st := []) dX7_behind_1 kX7_52 sX7_isHeap MX7_isHeap rfl rfl (Nat.le_of_ble_eq_true rfl) (FC.use (c_isHM (d + 5) _) rfl (L2 := [(38, .inr (7, [.ref 39, .ref 40, .int bu, .int (nI q), .ref 41, .int (nI n), .ref 42, .int fl, .int fa, .int fw, .int fr, .int rs, .int ac, .ref 43, .ref 44, .ref 45, .ref 46, .ref 47, .ref 48, .ref 49]))]) rfl) (Nat.le_of_ble_eq_true rfl) (fun _ _ hq9 => E_fgo ?_ hq9)
  show E _ _ 4 [.ref 38, .int x, .int v] [.int (b2i (inI x 0 5))] (hov hp [(38, .inr (7, [.ref 39, .ref 40, .int bu, .int (nI q), .ref 41, .int (nI n), .ref 42, .int fl, .int fa, .int fw, .int fr, .int rs, .int ac, .ref 43, .ref 44, .ref 45, .ref 46, .ref 47, .ref 48, .ref 49]))]) _
  refine E_if_ne (tgt := 9) dX7_behind_4 (by decide) (fun c => (b2i_x0 hx c).elim) (fun _ => ?_)
  refine E_iconst (v := (-1)) dX7_behind_7 (by decide) ?_
  exact E_iretf dX7_behind_8 rfl rfl rfl rfl

set_option maxHeartbeats 4000000 in
set_option maxRecDepth 20000 in
theorem m_beh_out (d : Nat) (bu fl fa fw fr rs ac : Int32) (q n : Nat) (x v : Int32) (hx : inI x 0 5 = true) (hv : inI v 0 2 = false) : FC YX7_behind (d + 7) [.ref 38, .int x, .int v] [(38, .inr (7, [.ref 39, .ref 40, .int bu, .int (nI q), .ref 41, .int (nI n), .ref 42, .int fl, .int fa, .int fw, .int fr, .int rs, .int ac, .ref 43, .ref 44, .ref 45, .ref 46, .ref 47, .ref 48, .ref 49]))] (some (.int (-2))) [(38, .inr (7, [.ref 39, .ref 40, .int bu, .int (nI q), .ref 41, .int (nI n), .ref 42, .int fl, .int fa, .int fw, .int fr, .int rs, .int ac, .ref 43, .ref 44, .ref 45, .ref 46, .ref 47, .ref 48, .ref 49]))] := by
  intro hp
  refine E_iload_n dX7_behind_0 rfl ?_
  refine E_callS (As := [.int x]) (l' := [.int x]) (st := []) dX7_behind_1 kX7_52 sX7_isHeap MX7_isHeap rfl rfl (Nat.le_of_ble_eq_true rfl) (FC.use (c_isHM (d + 5) _) rfl (L2 := [(38, .inr (7, [.ref 39, .ref 40, .int bu, .int (nI q), .ref 41, .int (nI n), .ref 42, .int fl, .int fa, .int fw, .int fr, .int rs, .int ac, .ref 43, .ref 44, .ref 45, .ref 46, .ref 47, .ref 48, .ref 49]))]) rfl) (Nat.le_of_ble_eq_true rfl) (fun _ _ hq9 => E_fgo ?_ hq9)
  show E _ _ 4 [.ref 38, .int x, .int v] [.int (b2i (inI x 0 5))] (hov hp [(38, .inr (7, [.ref 39, .ref 40, .int bu, .int (nI q), .ref 41, .int (nI n), .ref 42, .int fl, .int fa, .int fw, .int fr, .int rs, .int ac, .ref 43, .ref 44, .ref 45, .ref 46, .ref 47, .ref 48, .ref 49]))]) _
  refine E_if_ne (tgt := 9) dX7_behind_4 (by decide) (fun _ => ?_) (fun c => (b2i_x1 hx c).elim)
  refine E_iload_n dX7_behind_9 rfl ?_
  refine E_iconst (v := 0) dX7_behind_10 (by decide) ?_
  refine E_iconst (v := 2) dX7_behind_11 (by decide) ?_
  refine E_callS (As := [.int v, .int 0, .int 2]) (l' := [.int v, .int 0, .int 2]) (st := []) dX7_behind_12 kX7_48 sX7_in MX7_in rfl rfl (Nat.le_of_ble_eq_true rfl) (FC.use (c_in (d + 6) _ _ _) rfl (L2 := [(38, .inr (7, [.ref 39, .ref 40, .int bu, .int (nI q), .ref 41, .int (nI n), .ref 42, .int fl, .int fa, .int fw, .int fr, .int rs, .int ac, .ref 43, .ref 44, .ref 45, .ref 46, .ref 47, .ref 48, .ref 49]))]) rfl) (Nat.le_of_ble_eq_true rfl) (fun _ _ hq9 => E_fgo ?_ hq9)
  show E _ _ 15 [.ref 38, .int x, .int v] [.int (b2i (inI v 0 2))] (hov hp [(38, .inr (7, [.ref 39, .ref 40, .int bu, .int (nI q), .ref 41, .int (nI n), .ref 42, .int fl, .int fa, .int fw, .int fr, .int rs, .int ac, .ref 43, .ref 44, .ref 45, .ref 46, .ref 47, .ref 48, .ref 49]))]) _
  refine E_if_ne (tgt := 21) dX7_behind_15 (by decide) (fun c => (b2i_x0 hv c).elim) (fun _ => ?_)
  refine E_bipush (v := (-2)) dX7_behind_18 (by decide) ?_
  exact E_iretf dX7_behind_20 rfl rfl rfl rfl

set_option maxHeartbeats 4000000 in
set_option maxRecDepth 20000 in
theorem m_beh_f (d : Nat) (fl fa fw fr rs ac : Int32) (q n : Nat) (f : Nat → Int32) (hn : n ≤ 60) (s t : CS) (hs : OkS s) (hf : ¬ flt f n 0 false = -6) (x v : Int32) (hx : inI x 0 5 = true) (hv : inI v 0 2 = true) : FC YX7_behind (d + 7) [.ref 38, .int x, .int v] [(38, .inr (7, [.ref 39, .ref 40, .int (sbu s), .int (nI q), .ref 41, .int (nI n), .ref 42, .int fl, .int fa, .int fw, .int fr, .int rs, .int ac, .ref 43, .ref 44, .ref 45, .ref 46, .ref 47, .ref 48, .ref 49])), (39, .inl (false, 22, (bkF s))), (40, .inl (false, 22, (bkF t))), (42, .inl (false, 60, f))] (some (.int (-5))) [(38, .inr (7, [.ref 39, .ref 40, .int (sbu s), .int (nI q), .ref 41, .int (nI n), .ref 42, .int fl, .int fa, .int fw, .int fr, .int rs, .int ac, .ref 43, .ref 44, .ref 45, .ref 46, .ref 47, .ref 48, .ref 49])), (39, .inl (false, 22, (bkF s))), (40, .inl (false, 22, (bkF t))), (42, .inl (false, 60, f))] := by
  intro hp
  refine E_iload_n dX7_behind_0 rfl ?_
  refine E_callS (As := [.int x]) (l' := [.int x]) (st := []) dX7_behind_1 kX7_52 sX7_isHeap MX7_isHeap rfl rfl (Nat.le_of_ble_eq_true rfl) (FC.use (c_isHM (d + 5) _) rfl (L2 := [(38, .inr (7, [.ref 39, .ref 40, .int (sbu s), .int (nI q), .ref 41, .int (nI n), .ref 42, .int fl, .int fa, .int fw, .int fr, .int rs, .int ac, .ref 43, .ref 44, .ref 45, .ref 46, .ref 47, .ref 48, .ref 49])), (39, .inl (false, 22, (bkF s))), (40, .inl (false, 22, (bkF t))), (42, .inl (false, 60, f))]) rfl) (Nat.le_of_ble_eq_true rfl) (fun _ _ hq9 => E_fgo ?_ hq9)
  show E _ _ 4 [.ref 38, .int x, .int v] [.int (b2i (inI x 0 5))] (hov hp [(38, .inr (7, [.ref 39, .ref 40, .int (sbu s), .int (nI q), .ref 41, .int (nI n), .ref 42, .int fl, .int fa, .int fw, .int fr, .int rs, .int ac, .ref 43, .ref 44, .ref 45, .ref 46, .ref 47, .ref 48, .ref 49])), (39, .inl (false, 22, (bkF s))), (40, .inl (false, 22, (bkF t))), (42, .inl (false, 60, f))]) _
  refine E_if_ne (tgt := 9) dX7_behind_4 (by decide) (fun _ => ?_) (fun c => (b2i_x1 hx c).elim)
  refine E_iload_n dX7_behind_9 rfl ?_
  refine E_iconst (v := 0) dX7_behind_10 (by decide) ?_
  refine E_iconst (v := 2) dX7_behind_11 (by decide) ?_
  refine E_callS (As := [.int v, .int 0, .int 2]) (l' := [.int v, .int 0, .int 2]) (st := []) dX7_behind_12 kX7_48 sX7_in MX7_in rfl rfl (Nat.le_of_ble_eq_true rfl) (FC.use (c_in (d + 6) _ _ _) rfl (L2 := [(38, .inr (7, [.ref 39, .ref 40, .int (sbu s), .int (nI q), .ref 41, .int (nI n), .ref 42, .int fl, .int fa, .int fw, .int fr, .int rs, .int ac, .ref 43, .ref 44, .ref 45, .ref 46, .ref 47, .ref 48, .ref 49])), (39, .inl (false, 22, (bkF s))), (40, .inl (false, 22, (bkF t))), (42, .inl (false, 60, f))]) rfl) (Nat.le_of_ble_eq_true rfl) (fun _ _ hq9 => E_fgo ?_ hq9)
  show E _ _ 15 [.ref 38, .int x, .int v] [.int (b2i (inI v 0 2))] (hov hp [(38, .inr (7, [.ref 39, .ref 40, .int (sbu s), .int (nI q), .ref 41, .int (nI n), .ref 42, .int fl, .int fa, .int fw, .int fr, .int rs, .int ac, .ref 43, .ref 44, .ref 45, .ref 46, .ref 47, .ref 48, .ref 49])), (39, .inl (false, 22, (bkF s))), (40, .inl (false, 22, (bkF t))), (42, .inl (false, 60, f))]) _
  refine E_if_ne (tgt := 21) dX7_behind_15 (by decide) (fun _ => ?_) (fun c => (b2i_x1 hv c).elim)
  refine E_aload_n dX7_behind_21 rfl ?_
  refine E_callV (As := []) (l' := [.ref 38]) (st := []) dX7_behind_22 kX7_120 iX7_barOfWeeks vX7_barOfWeeks (by decide) rfl rfl MX7_barOfWeeks rfl rfl (Nat.le_of_ble_eq_true rfl) (FC.use (m_bar_f d fl fa fw fr rs ac q n f hn s t hs hf) rfl (L2 := [(38, .inr (7, [.ref 39, .ref 40, .int (sbu s), .int (nI q), .ref 41, .int (nI n), .ref 42, .int fl, .int fa, .int fw, .int fr, .int rs, .int ac, .ref 43, .ref 44, .ref 45, .ref 46, .ref 47, .ref 48, .ref 49])), (39, .inl (false, 22, (bkF s))), (40, .inl (false, 22, (bkF t))), (42, .inl (false, 60, f))]) rfl) (Nat.le_of_ble_eq_true rfl) (fun _ _ hq9 => E_fgo ?_ hq9)
  show E _ _ 25 [.ref 38, .int x, .int v] [.int (-5)] (hov hp [(38, .inr (7, [.ref 39, .ref 40, .int (sbu s), .int (nI q), .ref 41, .int (nI n), .ref 42, .int fl, .int fa, .int fw, .int fr, .int rs, .int ac, .ref 43, .ref 44, .ref 45, .ref 46, .ref 47, .ref 48, .ref 49])), (39, .inl (false, 22, (bkF s))), (40, .inl (false, 22, (bkF t))), (42, .inl (false, 60, f))]) _
  refine E_if_ge (tgt := 33) dX7_behind_25 (by decide) (fun c => by first | exact absurd c (by decide) | exact absurd (by decide) c) (fun _ => ?_)
  refine E_bipush (v := (-5)) dX7_behind_28 (by decide) ?_
  refine E_goto (tgt := 44) dX7_behind_30 (by decide) ?_
  exact E_iretf dX7_behind_44 rfl rfl rfl rfl

set_option maxHeartbeats 4000000 in
set_option maxRecDepth 20000 in
theorem m_beh_n (d : Nat) (fl fa fw fr rs ac : Int32) (q n : Nat) (f : Nat → Int32) (hn : n ≤ 60) (s t : CS) (hs : OkS s) (hf : flt f n 0 false = -6) (hr : ¬ (wk f n 0 (wk0 s)).2 = 0) (x v : Int32) (hx : inI x 0 5 = true) (hv : inI v 0 2 = true) : FR YX7_behind (d + 7) [.ref 38, .int x, .int v] [(38, .inr (7, [.ref 39, .ref 40, .int (sbu s), .int (nI q), .ref 41, .int (nI n), .ref 42, .int fl, .int fa, .int fw, .int fr, .int rs, .int ac, .ref 43, .ref 44, .ref 45, .ref 46, .ref 47, .ref 48, .ref 49])), (39, .inl (false, 22, (bkF s))), (40, .inl (false, 22, (bkF t))), (42, .inl (false, 60, f))] (fun v M => ∃ fr' rs' : Int32, M = [(38, .inr (7, [.ref 39, .ref 40, .int (sbu s), .int (nI q), .ref 41, .int (nI n), .ref 42, .int (wF ((wk f n 0 (wk0 s)).1)), .int (wG ((wk f n 0 (wk0 s)).1)), .int (wH ((wk f n 0 (wk0 s)).1)), .int fr', .int rs', .int (nI (wA ((wk f n 0 (wk0 s)).1))), .ref 43, .ref 44, .ref 45, .ref 46, .ref 47, .ref 48, .ref 49])), (39, .inl (false, 22, (bkF s))), (40, .inl (false, 22, (bkF (wS (wk f n 0 (wk0 s)).1)))), (42, .inl (false, 60, f))] ∧ v = some (.int (-5))) := by
  intro hp
  refine E_iload_n dX7_behind_0 rfl ?_
  refine E_callS (As := [.int x]) (l' := [.int x]) (st := []) dX7_behind_1 kX7_52 sX7_isHeap MX7_isHeap rfl rfl (Nat.le_of_ble_eq_true rfl) (FC.use (c_isHM (d + 5) _) rfl (L2 := [(38, .inr (7, [.ref 39, .ref 40, .int (sbu s), .int (nI q), .ref 41, .int (nI n), .ref 42, .int fl, .int fa, .int fw, .int fr, .int rs, .int ac, .ref 43, .ref 44, .ref 45, .ref 46, .ref 47, .ref 48, .ref 49])), (39, .inl (false, 22, (bkF s))), (40, .inl (false, 22, (bkF t))), (42, .inl (false, 60, f))]) rfl) (Nat.le_of_ble_eq_true rfl) (fun _ _ hq9 => E_fgo ?_ hq9)
  show E _ _ 4 [.ref 38, .int x, .int v] [.int (b2i (inI x 0 5))] (hov hp [(38, .inr (7, [.ref 39, .ref 40, .int (sbu s), .int (nI q), .ref 41, .int (nI n), .ref 42, .int fl, .int fa, .int fw, .int fr, .int rs, .int ac, .ref 43, .ref 44, .ref 45, .ref 46, .ref 47, .ref 48, .ref 49])), (39, .inl (false, 22, (bkF s))), (40, .inl (false, 22, (bkF t))), (42, .inl (false, 60, f))]) _
  refine E_if_ne (tgt := 9) dX7_behind_4 (by decide) (fun _ => ?_) (fun c => (b2i_x1 hx c).elim)
  refine E_iload_n dX7_behind_9 rfl ?_
  refine E_iconst (v := 0) dX7_behind_10 (by decide) ?_
  refine E_iconst (v := 2) dX7_behind_11 (by decide) ?_
  refine E_callS (As := [.int v, .int 0, .int 2]) (l' := [.int v, .int 0, .int 2]) (st := []) dX7_behind_12 kX7_48 sX7_in MX7_in rfl rfl (Nat.le_of_ble_eq_true rfl) (FC.use (c_in (d + 6) _ _ _) rfl (L2 := [(38, .inr (7, [.ref 39, .ref 40, .int (sbu s), .int (nI q), .ref 41, .int (nI n), .ref 42, .int fl, .int fa, .int fw, .int fr, .int rs, .int ac, .ref 43, .ref 44, .ref 45, .ref 46, .ref 47, .ref 48, .ref 49])), (39, .inl (false, 22, (bkF s))), (40, .inl (false, 22, (bkF t))), (42, .inl (false, 60, f))]) rfl) (Nat.le_of_ble_eq_true rfl) (fun _ _ hq9 => E_fgo ?_ hq9)
  show E _ _ 15 [.ref 38, .int x, .int v] [.int (b2i (inI v 0 2))] (hov hp [(38, .inr (7, [.ref 39, .ref 40, .int (sbu s), .int (nI q), .ref 41, .int (nI n), .ref 42, .int fl, .int fa, .int fw, .int fr, .int rs, .int ac, .ref 43, .ref 44, .ref 45, .ref 46, .ref 47, .ref 48, .ref 49])), (39, .inl (false, 22, (bkF s))), (40, .inl (false, 22, (bkF t))), (42, .inl (false, 60, f))]) _
  refine E_if_ne (tgt := 21) dX7_behind_15 (by decide) (fun _ => ?_) (fun c => (b2i_x1 hv c).elim)
  refine E_aload_n dX7_behind_21 rfl ?_
  refine E_callV (As := []) (l' := [.ref 38]) (st := []) dX7_behind_22 kX7_120 iX7_barOfWeeks vX7_barOfWeeks (by decide) rfl rfl MX7_barOfWeeks rfl rfl (Nat.le_of_ble_eq_true rfl) (FR.use (m_bar_0 d fl fa fw fr rs ac q n f hn s t hs hf hr) (L := [(38, .inr (7, [.ref 39, .ref 40, .int (sbu s), .int (nI q), .ref 41, .int (nI n), .ref 42, .int fl, .int fa, .int fw, .int fr, .int rs, .int ac, .ref 43, .ref 44, .ref 45, .ref 46, .ref 47, .ref 48, .ref 49])), (39, .inl (false, 22, (bkF s))), (40, .inl (false, 22, (bkF t))), (42, .inl (false, 60, f))]) rfl) (Nat.le_of_ble_eq_true rfl) ?_
  intro v9 h9 hq9
  obtain ⟨M, rfl, fr', rs', rfl, rfl⟩ := hq9
  show E _ _ 25 [.ref 38, .int x, .int v] [.int (-5)] (hov hp [(38, .inr (7, [.ref 39, .ref 40, .int (sbu s), .int (nI q), .ref 41, .int (nI n), .ref 42, .int (wF ((wk f n 0 (wk0 s)).1)), .int (wG ((wk f n 0 (wk0 s)).1)), .int (wH ((wk f n 0 (wk0 s)).1)), .int fr', .int rs', .int (nI (wA ((wk f n 0 (wk0 s)).1))), .ref 43, .ref 44, .ref 45, .ref 46, .ref 47, .ref 48, .ref 49])), (39, .inl (false, 22, (bkF s))), (40, .inl (false, 22, (bkF (wS (wk f n 0 (wk0 s)).1)))), (42, .inl (false, 60, f))]) _
  refine E_if_ge (tgt := 33) dX7_behind_25 (by decide) (fun c => by first | exact absurd c (by decide) | exact absurd (by decide) c) (fun _ => ?_)
  refine E_bipush (v := (-5)) dX7_behind_28 (by decide) ?_
  refine E_goto (tgt := 44) dX7_behind_30 (by decide) ?_
  exact E_iret (st := []) dX7_behind_44 rfl rfl ⟨_, rfl, fr', rs', rfl, rfl⟩

set_option maxHeartbeats 4000000 in
set_option maxRecDepth 20000 in
theorem m_beh_0 (d : Nat) (fl fa fw fr rs ac : Int32) (q n : Nat) (f : Nat → Int32) (hn : n ≤ 60) (s t : CS) (hs : OkS s) (hf : flt f n 0 false = -6) (hr : (wk f n 0 (wk0 s)).2 = 0) (h : Nat) (hh : h < 6) (hx : inI (nI h) 0 5 = true) : FR YX7_behind (d + 7) [.ref 38, .int (nI h), .int 0] [(38, .inr (7, [.ref 39, .ref 40, .int (sbu s), .int (nI q), .ref 41, .int (nI n), .ref 42, .int fl, .int fa, .int fw, .int fr, .int rs, .int ac, .ref 43, .ref 44, .ref 45, .ref 46, .ref 47, .ref 48, .ref 49])), (39, .inl (false, 22, (bkF s))), (40, .inl (false, 22, (bkF t))), (42, .inl (false, 60, f))] (fun v M => ∃ fr' rs' : Int32, M = [(38, .inr (7, [.ref 39, .ref 40, .int (sbu s), .int (nI q), .ref 41, .int (nI n), .ref 42, .int (wF ((wk f n 0 (wk0 s)).1)), .int (wG ((wk f n 0 (wk0 s)).1)), .int (wH ((wk f n 0 (wk0 s)).1)), .int fr', .int rs', .int (nI (wA ((wk f n 0 (wk0 s)).1))), .ref 43, .ref 44, .ref 45, .ref 46, .ref 47, .ref 48, .ref 49])), (39, .inl (false, 22, (bkF s))), (40, .inl (false, 22, (bkF (wS (wk f n 0 (wk0 s)).1)))), (42, .inl (false, 60, f))] ∧ v = some (.int (she (wS (wk f n 0 (wk0 s)).1) h))) := by
  intro hp
  refine E_iload_n dX7_behind_0 rfl ?_
  refine E_callS (As := [.int (nI h)]) (l' := [.int (nI h)]) (st := []) dX7_behind_1 kX7_52 sX7_isHeap MX7_isHeap rfl rfl (Nat.le_of_ble_eq_true rfl) (FC.use (c_isHM (d + 5) _) rfl (L2 := [(38, .inr (7, [.ref 39, .ref 40, .int (sbu s), .int (nI q), .ref 41, .int (nI n), .ref 42, .int fl, .int fa, .int fw, .int fr, .int rs, .int ac, .ref 43, .ref 44, .ref 45, .ref 46, .ref 47, .ref 48, .ref 49])), (39, .inl (false, 22, (bkF s))), (40, .inl (false, 22, (bkF t))), (42, .inl (false, 60, f))]) rfl) (Nat.le_of_ble_eq_true rfl) (fun _ _ hq9 => E_fgo ?_ hq9)
  show E _ _ 4 [.ref 38, .int (nI h), .int 0] [.int (b2i (inI (nI h) 0 5))] (hov hp [(38, .inr (7, [.ref 39, .ref 40, .int (sbu s), .int (nI q), .ref 41, .int (nI n), .ref 42, .int fl, .int fa, .int fw, .int fr, .int rs, .int ac, .ref 43, .ref 44, .ref 45, .ref 46, .ref 47, .ref 48, .ref 49])), (39, .inl (false, 22, (bkF s))), (40, .inl (false, 22, (bkF t))), (42, .inl (false, 60, f))]) _
  refine E_if_ne (tgt := 9) dX7_behind_4 (by decide) (fun _ => ?_) (fun c => (b2i_x1 hx c).elim)
  refine E_iload_n dX7_behind_9 rfl ?_
  refine E_iconst (v := 0) dX7_behind_10 (by decide) ?_
  refine E_iconst (v := 2) dX7_behind_11 (by decide) ?_
  refine E_callS (As := [.int 0, .int 0, .int 2]) (l' := [.int 0, .int 0, .int 2]) (st := []) dX7_behind_12 kX7_48 sX7_in MX7_in rfl rfl (Nat.le_of_ble_eq_true rfl) (FC.use (c_in (d + 6) _ _ _) rfl (L2 := [(38, .inr (7, [.ref 39, .ref 40, .int (sbu s), .int (nI q), .ref 41, .int (nI n), .ref 42, .int fl, .int fa, .int fw, .int fr, .int rs, .int ac, .ref 43, .ref 44, .ref 45, .ref 46, .ref 47, .ref 48, .ref 49])), (39, .inl (false, 22, (bkF s))), (40, .inl (false, 22, (bkF t))), (42, .inl (false, 60, f))]) rfl) (Nat.le_of_ble_eq_true rfl) (fun _ _ hq9 => E_fgo ?_ hq9)
  show E _ _ 15 [.ref 38, .int (nI h), .int 0] [.int (b2i (inI 0 0 2))] (hov hp [(38, .inr (7, [.ref 39, .ref 40, .int (sbu s), .int (nI q), .ref 41, .int (nI n), .ref 42, .int fl, .int fa, .int fw, .int fr, .int rs, .int ac, .ref 43, .ref 44, .ref 45, .ref 46, .ref 47, .ref 48, .ref 49])), (39, .inl (false, 22, (bkF s))), (40, .inl (false, 22, (bkF t))), (42, .inl (false, 60, f))]) _
  refine E_if_ne (tgt := 21) dX7_behind_15 (by decide) (fun _ => ?_) (fun c => (b2i_x1 (by decide) c).elim)
  refine E_aload_n dX7_behind_21 rfl ?_
  refine E_callV (As := []) (l' := [.ref 38]) (st := []) dX7_behind_22 kX7_120 iX7_barOfWeeks vX7_barOfWeeks (by decide) rfl rfl MX7_barOfWeeks rfl rfl (Nat.le_of_ble_eq_true rfl) (FR.use (m_bar_1 d fl fa fw fr rs ac q n f hn s t hs hf hr) (L := [(38, .inr (7, [.ref 39, .ref 40, .int (sbu s), .int (nI q), .ref 41, .int (nI n), .ref 42, .int fl, .int fa, .int fw, .int fr, .int rs, .int ac, .ref 43, .ref 44, .ref 45, .ref 46, .ref 47, .ref 48, .ref 49])), (39, .inl (false, 22, (bkF s))), (40, .inl (false, 22, (bkF t))), (42, .inl (false, 60, f))]) rfl) (Nat.le_of_ble_eq_true rfl) ?_
  intro v9 h9 hq9
  obtain ⟨M, rfl, fr', rs', rfl, rfl⟩ := hq9
  show E _ _ 25 [.ref 38, .int (nI h), .int 0] [.int 0] (hov hp [(38, .inr (7, [.ref 39, .ref 40, .int (sbu s), .int (nI q), .ref 41, .int (nI n), .ref 42, .int (wF ((wk f n 0 (wk0 s)).1)), .int (wG ((wk f n 0 (wk0 s)).1)), .int (wH ((wk f n 0 (wk0 s)).1)), .int fr', .int rs', .int (nI (wA ((wk f n 0 (wk0 s)).1))), .ref 43, .ref 44, .ref 45, .ref 46, .ref 47, .ref 48, .ref 49])), (39, .inl (false, 22, (bkF s))), (40, .inl (false, 22, (bkF (wS (wk f n 0 (wk0 s)).1)))), (42, .inl (false, 60, f))]) _
  refine E_if_ge (tgt := 33) dX7_behind_25 (by decide) (fun _ => ?_) (fun c => by first | exact absurd c (by decide) | exact absurd (by decide) c)
  refine E_aload_n dX7_behind_33 rfl ?_
  refine E_get dX7_behind_34 fX7_13 (by decide) rfl rfl ?_
  refine E_bipush (v := 6) dX7_behind_37 (by decide) ?_
  refine E_iload_n dX7_behind_39 rfl ?_
  refine E_imul dX7_behind_40 ?_
  refine E_eqi (y := 0) (by decide) ?_
  refine E_iload_n dX7_behind_41 rfl ?_
  refine E_iadd dX7_behind_42 ?_
  refine E_eqi (y := nI h) ((nI_add 0 h).trans (by rw [Nat.zero_add])) ?_
  refine E_ialdN (j := h) dX7_behind_43 (by decide) rfl (by omega) (by decide) ?_
  refine E_eqi (y := she (wS (wk f n 0 (wk0 s)).1) h) (bk_h hh) ?_
  exact E_iret (st := []) dX7_behind_44 rfl rfl ⟨_, rfl, fr', rs', rfl, rfl⟩

set_option maxHeartbeats 4000000 in
set_option maxRecDepth 20000 in
theorem m_beh_1 (d : Nat) (fl fa fw fr rs ac : Int32) (q n : Nat) (f : Nat → Int32) (hn : n ≤ 60) (s t : CS) (hs : OkS s) (hf : flt f n 0 false = -6) (hr : (wk f n 0 (wk0 s)).2 = 0) (h : Nat) (hh : h < 6) (hx : inI (nI h) 0 5 = true) : FR YX7_behind (d + 7) [.ref 38, .int (nI h), .int 1] [(38, .inr (7, [.ref 39, .ref 40, .int (sbu s), .int (nI q), .ref 41, .int (nI n), .ref 42, .int fl, .int fa, .int fw, .int fr, .int rs, .int ac, .ref 43, .ref 44, .ref 45, .ref 46, .ref 47, .ref 48, .ref 49])), (39, .inl (false, 22, (bkF s))), (40, .inl (false, 22, (bkF t))), (42, .inl (false, 60, f))] (fun v M => ∃ fr' rs' : Int32, M = [(38, .inr (7, [.ref 39, .ref 40, .int (sbu s), .int (nI q), .ref 41, .int (nI n), .ref 42, .int (wF ((wk f n 0 (wk0 s)).1)), .int (wG ((wk f n 0 (wk0 s)).1)), .int (wH ((wk f n 0 (wk0 s)).1)), .int fr', .int rs', .int (nI (wA ((wk f n 0 (wk0 s)).1))), .ref 43, .ref 44, .ref 45, .ref 46, .ref 47, .ref 48, .ref 49])), (39, .inl (false, 22, (bkF s))), (40, .inl (false, 22, (bkF (wS (wk f n 0 (wk0 s)).1)))), (42, .inl (false, 60, f))] ∧ v = some (.int (stu (wS (wk f n 0 (wk0 s)).1) h))) := by
  intro hp
  refine E_iload_n dX7_behind_0 rfl ?_
  refine E_callS (As := [.int (nI h)]) (l' := [.int (nI h)]) (st := []) dX7_behind_1 kX7_52 sX7_isHeap MX7_isHeap rfl rfl (Nat.le_of_ble_eq_true rfl) (FC.use (c_isHM (d + 5) _) rfl (L2 := [(38, .inr (7, [.ref 39, .ref 40, .int (sbu s), .int (nI q), .ref 41, .int (nI n), .ref 42, .int fl, .int fa, .int fw, .int fr, .int rs, .int ac, .ref 43, .ref 44, .ref 45, .ref 46, .ref 47, .ref 48, .ref 49])), (39, .inl (false, 22, (bkF s))), (40, .inl (false, 22, (bkF t))), (42, .inl (false, 60, f))]) rfl) (Nat.le_of_ble_eq_true rfl) (fun _ _ hq9 => E_fgo ?_ hq9)
  show E _ _ 4 [.ref 38, .int (nI h), .int 1] [.int (b2i (inI (nI h) 0 5))] (hov hp [(38, .inr (7, [.ref 39, .ref 40, .int (sbu s), .int (nI q), .ref 41, .int (nI n), .ref 42, .int fl, .int fa, .int fw, .int fr, .int rs, .int ac, .ref 43, .ref 44, .ref 45, .ref 46, .ref 47, .ref 48, .ref 49])), (39, .inl (false, 22, (bkF s))), (40, .inl (false, 22, (bkF t))), (42, .inl (false, 60, f))]) _
  refine E_if_ne (tgt := 9) dX7_behind_4 (by decide) (fun _ => ?_) (fun c => (b2i_x1 hx c).elim)
  refine E_iload_n dX7_behind_9 rfl ?_
  refine E_iconst (v := 0) dX7_behind_10 (by decide) ?_
  refine E_iconst (v := 2) dX7_behind_11 (by decide) ?_
  refine E_callS (As := [.int 1, .int 0, .int 2]) (l' := [.int 1, .int 0, .int 2]) (st := []) dX7_behind_12 kX7_48 sX7_in MX7_in rfl rfl (Nat.le_of_ble_eq_true rfl) (FC.use (c_in (d + 6) _ _ _) rfl (L2 := [(38, .inr (7, [.ref 39, .ref 40, .int (sbu s), .int (nI q), .ref 41, .int (nI n), .ref 42, .int fl, .int fa, .int fw, .int fr, .int rs, .int ac, .ref 43, .ref 44, .ref 45, .ref 46, .ref 47, .ref 48, .ref 49])), (39, .inl (false, 22, (bkF s))), (40, .inl (false, 22, (bkF t))), (42, .inl (false, 60, f))]) rfl) (Nat.le_of_ble_eq_true rfl) (fun _ _ hq9 => E_fgo ?_ hq9)
  show E _ _ 15 [.ref 38, .int (nI h), .int 1] [.int (b2i (inI 1 0 2))] (hov hp [(38, .inr (7, [.ref 39, .ref 40, .int (sbu s), .int (nI q), .ref 41, .int (nI n), .ref 42, .int fl, .int fa, .int fw, .int fr, .int rs, .int ac, .ref 43, .ref 44, .ref 45, .ref 46, .ref 47, .ref 48, .ref 49])), (39, .inl (false, 22, (bkF s))), (40, .inl (false, 22, (bkF t))), (42, .inl (false, 60, f))]) _
  refine E_if_ne (tgt := 21) dX7_behind_15 (by decide) (fun _ => ?_) (fun c => (b2i_x1 (by decide) c).elim)
  refine E_aload_n dX7_behind_21 rfl ?_
  refine E_callV (As := []) (l' := [.ref 38]) (st := []) dX7_behind_22 kX7_120 iX7_barOfWeeks vX7_barOfWeeks (by decide) rfl rfl MX7_barOfWeeks rfl rfl (Nat.le_of_ble_eq_true rfl) (FR.use (m_bar_1 d fl fa fw fr rs ac q n f hn s t hs hf hr) (L := [(38, .inr (7, [.ref 39, .ref 40, .int (sbu s), .int (nI q), .ref 41, .int (nI n), .ref 42, .int fl, .int fa, .int fw, .int fr, .int rs, .int ac, .ref 43, .ref 44, .ref 45, .ref 46, .ref 47, .ref 48, .ref 49])), (39, .inl (false, 22, (bkF s))), (40, .inl (false, 22, (bkF t))), (42, .inl (false, 60, f))]) rfl) (Nat.le_of_ble_eq_true rfl) ?_
  intro v9 h9 hq9
  obtain ⟨M, rfl, fr', rs', rfl, rfl⟩ := hq9
  show E _ _ 25 [.ref 38, .int (nI h), .int 1] [.int 0] (hov hp [(38, .inr (7, [.ref 39, .ref 40, .int (sbu s), .int (nI q), .ref 41, .int (nI n), .ref 42, .int (wF ((wk f n 0 (wk0 s)).1)), .int (wG ((wk f n 0 (wk0 s)).1)), .int (wH ((wk f n 0 (wk0 s)).1)), .int fr', .int rs', .int (nI (wA ((wk f n 0 (wk0 s)).1))), .ref 43, .ref 44, .ref 45, .ref 46, .ref 47, .ref 48, .ref 49])), (39, .inl (false, 22, (bkF s))), (40, .inl (false, 22, (bkF (wS (wk f n 0 (wk0 s)).1)))), (42, .inl (false, 60, f))]) _
  refine E_if_ge (tgt := 33) dX7_behind_25 (by decide) (fun _ => ?_) (fun c => by first | exact absurd c (by decide) | exact absurd (by decide) c)
  refine E_aload_n dX7_behind_33 rfl ?_
  refine E_get dX7_behind_34 fX7_13 (by decide) rfl rfl ?_
  refine E_bipush (v := 6) dX7_behind_37 (by decide) ?_
  refine E_iload_n dX7_behind_39 rfl ?_
  refine E_imul dX7_behind_40 ?_
  refine E_eqi (y := 6) (by decide) ?_
  refine E_iload_n dX7_behind_41 rfl ?_
  refine E_iadd dX7_behind_42 ?_
  refine E_eqi (y := nI (6 + h)) (nI_add 6 _) ?_
  refine E_ialdN (j := 6 + h) dX7_behind_43 (by decide) rfl (by omega) (by decide) ?_
  refine E_eqi (y := stu (wS (wk f n 0 (wk0 s)).1) h) (bk_t hh) ?_
  exact E_iret (st := []) dX7_behind_44 rfl rfl ⟨_, rfl, fr', rs', rfl, rfl⟩

set_option maxHeartbeats 4000000 in
set_option maxRecDepth 20000 in
theorem m_beh_2 (d : Nat) (fl fa fw fr rs ac : Int32) (q n : Nat) (f : Nat → Int32) (hn : n ≤ 60) (s t : CS) (hs : OkS s) (hf : flt f n 0 false = -6) (hr : (wk f n 0 (wk0 s)).2 = 0) (h : Nat) (hh : h < 6) (hx : inI (nI h) 0 5 = true) : FR YX7_behind (d + 7) [.ref 38, .int (nI h), .int 2] [(38, .inr (7, [.ref 39, .ref 40, .int (sbu s), .int (nI q), .ref 41, .int (nI n), .ref 42, .int fl, .int fa, .int fw, .int fr, .int rs, .int ac, .ref 43, .ref 44, .ref 45, .ref 46, .ref 47, .ref 48, .ref 49])), (39, .inl (false, 22, (bkF s))), (40, .inl (false, 22, (bkF t))), (42, .inl (false, 60, f))] (fun v M => ∃ fr' rs' : Int32, M = [(38, .inr (7, [.ref 39, .ref 40, .int (sbu s), .int (nI q), .ref 41, .int (nI n), .ref 42, .int (wF ((wk f n 0 (wk0 s)).1)), .int (wG ((wk f n 0 (wk0 s)).1)), .int (wH ((wk f n 0 (wk0 s)).1)), .int fr', .int rs', .int (nI (wA ((wk f n 0 (wk0 s)).1))), .ref 43, .ref 44, .ref 45, .ref 46, .ref 47, .ref 48, .ref 49])), (39, .inl (false, 22, (bkF s))), (40, .inl (false, 22, (bkF (wS (wk f n 0 (wk0 s)).1)))), (42, .inl (false, 60, f))] ∧ v = some (.int (sce (wS (wk f n 0 (wk0 s)).1) h))) := by
  intro hp
  refine E_iload_n dX7_behind_0 rfl ?_
  refine E_callS (As := [.int (nI h)]) (l' := [.int (nI h)]) (st := []) dX7_behind_1 kX7_52 sX7_isHeap MX7_isHeap rfl rfl (Nat.le_of_ble_eq_true rfl) (FC.use (c_isHM (d + 5) _) rfl (L2 := [(38, .inr (7, [.ref 39, .ref 40, .int (sbu s), .int (nI q), .ref 41, .int (nI n), .ref 42, .int fl, .int fa, .int fw, .int fr, .int rs, .int ac, .ref 43, .ref 44, .ref 45, .ref 46, .ref 47, .ref 48, .ref 49])), (39, .inl (false, 22, (bkF s))), (40, .inl (false, 22, (bkF t))), (42, .inl (false, 60, f))]) rfl) (Nat.le_of_ble_eq_true rfl) (fun _ _ hq9 => E_fgo ?_ hq9)
  show E _ _ 4 [.ref 38, .int (nI h), .int 2] [.int (b2i (inI (nI h) 0 5))] (hov hp [(38, .inr (7, [.ref 39, .ref 40, .int (sbu s), .int (nI q), .ref 41, .int (nI n), .ref 42, .int fl, .int fa, .int fw, .int fr, .int rs, .int ac, .ref 43, .ref 44, .ref 45, .ref 46, .ref 47, .ref 48, .ref 49])), (39, .inl (false, 22, (bkF s))), (40, .inl (false, 22, (bkF t))), (42, .inl (false, 60, f))]) _
  refine E_if_ne (tgt := 9) dX7_behind_4 (by decide) (fun _ => ?_) (fun c => (b2i_x1 hx c).elim)
  refine E_iload_n dX7_behind_9 rfl ?_
  refine E_iconst (v := 0) dX7_behind_10 (by decide) ?_
  refine E_iconst (v := 2) dX7_behind_11 (by decide) ?_
  refine E_callS (As := [.int 2, .int 0, .int 2]) (l' := [.int 2, .int 0, .int 2]) (st := []) dX7_behind_12 kX7_48 sX7_in MX7_in rfl rfl (Nat.le_of_ble_eq_true rfl) (FC.use (c_in (d + 6) _ _ _) rfl (L2 := [(38, .inr (7, [.ref 39, .ref 40, .int (sbu s), .int (nI q), .ref 41, .int (nI n), .ref 42, .int fl, .int fa, .int fw, .int fr, .int rs, .int ac, .ref 43, .ref 44, .ref 45, .ref 46, .ref 47, .ref 48, .ref 49])), (39, .inl (false, 22, (bkF s))), (40, .inl (false, 22, (bkF t))), (42, .inl (false, 60, f))]) rfl) (Nat.le_of_ble_eq_true rfl) (fun _ _ hq9 => E_fgo ?_ hq9)
  show E _ _ 15 [.ref 38, .int (nI h), .int 2] [.int (b2i (inI 2 0 2))] (hov hp [(38, .inr (7, [.ref 39, .ref 40, .int (sbu s), .int (nI q), .ref 41, .int (nI n), .ref 42, .int fl, .int fa, .int fw, .int fr, .int rs, .int ac, .ref 43, .ref 44, .ref 45, .ref 46, .ref 47, .ref 48, .ref 49])), (39, .inl (false, 22, (bkF s))), (40, .inl (false, 22, (bkF t))), (42, .inl (false, 60, f))]) _
  refine E_if_ne (tgt := 21) dX7_behind_15 (by decide) (fun _ => ?_) (fun c => (b2i_x1 (by decide) c).elim)
  refine E_aload_n dX7_behind_21 rfl ?_
  refine E_callV (As := []) (l' := [.ref 38]) (st := []) dX7_behind_22 kX7_120 iX7_barOfWeeks vX7_barOfWeeks (by decide) rfl rfl MX7_barOfWeeks rfl rfl (Nat.le_of_ble_eq_true rfl) (FR.use (m_bar_1 d fl fa fw fr rs ac q n f hn s t hs hf hr) (L := [(38, .inr (7, [.ref 39, .ref 40, .int (sbu s), .int (nI q), .ref 41, .int (nI n), .ref 42, .int fl, .int fa, .int fw, .int fr, .int rs, .int ac, .ref 43, .ref 44, .ref 45, .ref 46, .ref 47, .ref 48, .ref 49])), (39, .inl (false, 22, (bkF s))), (40, .inl (false, 22, (bkF t))), (42, .inl (false, 60, f))]) rfl) (Nat.le_of_ble_eq_true rfl) ?_
  intro v9 h9 hq9
  obtain ⟨M, rfl, fr', rs', rfl, rfl⟩ := hq9
  show E _ _ 25 [.ref 38, .int (nI h), .int 2] [.int 0] (hov hp [(38, .inr (7, [.ref 39, .ref 40, .int (sbu s), .int (nI q), .ref 41, .int (nI n), .ref 42, .int (wF ((wk f n 0 (wk0 s)).1)), .int (wG ((wk f n 0 (wk0 s)).1)), .int (wH ((wk f n 0 (wk0 s)).1)), .int fr', .int rs', .int (nI (wA ((wk f n 0 (wk0 s)).1))), .ref 43, .ref 44, .ref 45, .ref 46, .ref 47, .ref 48, .ref 49])), (39, .inl (false, 22, (bkF s))), (40, .inl (false, 22, (bkF (wS (wk f n 0 (wk0 s)).1)))), (42, .inl (false, 60, f))]) _
  refine E_if_ge (tgt := 33) dX7_behind_25 (by decide) (fun _ => ?_) (fun c => by first | exact absurd c (by decide) | exact absurd (by decide) c)
  refine E_aload_n dX7_behind_33 rfl ?_
  refine E_get dX7_behind_34 fX7_13 (by decide) rfl rfl ?_
  refine E_bipush (v := 6) dX7_behind_37 (by decide) ?_
  refine E_iload_n dX7_behind_39 rfl ?_
  refine E_imul dX7_behind_40 ?_
  refine E_eqi (y := 12) (by decide) ?_
  refine E_iload_n dX7_behind_41 rfl ?_
  refine E_iadd dX7_behind_42 ?_
  refine E_eqi (y := nI (12 + h)) (nI_add 12 _) ?_
  refine E_ialdN (j := 12 + h) dX7_behind_43 (by decide) rfl (by omega) (by decide) ?_
  refine E_eqi (y := sce (wS (wk f n 0 (wk0 s)).1) h) (bk_c hh) ?_
  exact E_iret (st := []) dX7_behind_44 rfl rfl ⟨_, rfl, fr', rs', rfl, rfl⟩

set_option maxHeartbeats 4000000 in
set_option maxRecDepth 20000 in
theorem m_then_out (d : Nat) (bu fl fa fw fr rs ac : Int32) (q n : Nat) (v : Int32) (hv : inI v 0 6 = false) : FC YX7_then (d + 7) [.ref 38, .int v] [(38, .inr (7, [.ref 39, .ref 40, .int bu, .int (nI q), .ref 41, .int (nI n), .ref 42, .int fl, .int fa, .int fw, .int fr, .int rs, .int ac, .ref 43, .ref 44, .ref 45, .ref 46, .ref 47, .ref 48, .ref 49]))] (some (.int (-2))) [(38, .inr (7, [.ref 39, .ref 40, .int bu, .int (nI q), .ref 41, .int (nI n), .ref 42, .int fl, .int fa, .int fw, .int fr, .int rs, .int ac, .ref 43, .ref 44, .ref 45, .ref 46, .ref 47, .ref 48, .ref 49]))] := by
  intro hp
  refine E_iload_n dX7_then_0 rfl ?_
  refine E_iconst (v := 0) dX7_then_1 (by decide) ?_
  refine E_bipush (v := 6) dX7_then_2 (by decide) ?_
  refine E_callS (As := [.int v, .int 0, .int 6]) (l' := [.int v, .int 0, .int 6]) (st := []) dX7_then_4 kX7_48 sX7_in MX7_in rfl rfl (Nat.le_of_ble_eq_true rfl) (FC.use (c_in (d + 6) _ _ _) rfl (L2 := [(38, .inr (7, [.ref 39, .ref 40, .int bu, .int (nI q), .ref 41, .int (nI n), .ref 42, .int fl, .int fa, .int fw, .int fr, .int rs, .int ac, .ref 43, .ref 44, .ref 45, .ref 46, .ref 47, .ref 48, .ref 49]))]) rfl) (Nat.le_of_ble_eq_true rfl) (fun _ _ hq9 => E_fgo ?_ hq9)
  show E _ _ 7 [.ref 38, .int v] [.int (b2i (inI v 0 6))] (hov hp [(38, .inr (7, [.ref 39, .ref 40, .int bu, .int (nI q), .ref 41, .int (nI n), .ref 42, .int fl, .int fa, .int fw, .int fr, .int rs, .int ac, .ref 43, .ref 44, .ref 45, .ref 46, .ref 47, .ref 48, .ref 49]))]) _
  refine E_if_ne (tgt := 13) dX7_then_7 (by decide) (fun c => (b2i_x0 hv c).elim) (fun _ => ?_)
  refine E_bipush (v := (-2)) dX7_then_10 (by decide) ?_
  exact E_iretf dX7_then_12 rfl rfl rfl rfl

set_option maxHeartbeats 4000000 in
set_option maxRecDepth 20000 in
theorem m_then_f (d : Nat) (fl fa fw fr rs ac : Int32) (q n : Nat) (f : Nat → Int32) (hn : n ≤ 60) (s t : CS) (hs : OkS s) (hf : ¬ flt f n 0 false = -6) (v : Int32) (hv : inI v 0 6 = true) : FC YX7_then (d + 7) [.ref 38, .int v] [(38, .inr (7, [.ref 39, .ref 40, .int (sbu s), .int (nI q), .ref 41, .int (nI n), .ref 42, .int fl, .int fa, .int fw, .int fr, .int rs, .int ac, .ref 43, .ref 44, .ref 45, .ref 46, .ref 47, .ref 48, .ref 49])), (39, .inl (false, 22, (bkF s))), (40, .inl (false, 22, (bkF t))), (42, .inl (false, 60, f))] (some (.int (-5))) [(38, .inr (7, [.ref 39, .ref 40, .int (sbu s), .int (nI q), .ref 41, .int (nI n), .ref 42, .int fl, .int fa, .int fw, .int fr, .int rs, .int ac, .ref 43, .ref 44, .ref 45, .ref 46, .ref 47, .ref 48, .ref 49])), (39, .inl (false, 22, (bkF s))), (40, .inl (false, 22, (bkF t))), (42, .inl (false, 60, f))] := by
  intro hp
  refine E_iload_n dX7_then_0 rfl ?_
  refine E_iconst (v := 0) dX7_then_1 (by decide) ?_
  refine E_bipush (v := 6) dX7_then_2 (by decide) ?_
  refine E_callS (As := [.int v, .int 0, .int 6]) (l' := [.int v, .int 0, .int 6]) (st := []) dX7_then_4 kX7_48 sX7_in MX7_in rfl rfl (Nat.le_of_ble_eq_true rfl) (FC.use (c_in (d + 6) _ _ _) rfl (L2 := [(38, .inr (7, [.ref 39, .ref 40, .int (sbu s), .int (nI q), .ref 41, .int (nI n), .ref 42, .int fl, .int fa, .int fw, .int fr, .int rs, .int ac, .ref 43, .ref 44, .ref 45, .ref 46, .ref 47, .ref 48, .ref 49])), (39, .inl (false, 22, (bkF s))), (40, .inl (false, 22, (bkF t))), (42, .inl (false, 60, f))]) rfl) (Nat.le_of_ble_eq_true rfl) (fun _ _ hq9 => E_fgo ?_ hq9)
  show E _ _ 7 [.ref 38, .int v] [.int (b2i (inI v 0 6))] (hov hp [(38, .inr (7, [.ref 39, .ref 40, .int (sbu s), .int (nI q), .ref 41, .int (nI n), .ref 42, .int fl, .int fa, .int fw, .int fr, .int rs, .int ac, .ref 43, .ref 44, .ref 45, .ref 46, .ref 47, .ref 48, .ref 49])), (39, .inl (false, 22, (bkF s))), (40, .inl (false, 22, (bkF t))), (42, .inl (false, 60, f))]) _
  refine E_if_ne (tgt := 13) dX7_then_7 (by decide) (fun _ => ?_) (fun c => (b2i_x1 hv c).elim)
  refine E_aload_n dX7_then_13 rfl ?_
  refine E_callV (As := []) (l' := [.ref 38]) (st := []) dX7_then_14 kX7_120 iX7_barOfWeeks vX7_barOfWeeks (by decide) rfl rfl MX7_barOfWeeks rfl rfl (Nat.le_of_ble_eq_true rfl) (FC.use (m_bar_f d fl fa fw fr rs ac q n f hn s t hs hf) rfl (L2 := [(38, .inr (7, [.ref 39, .ref 40, .int (sbu s), .int (nI q), .ref 41, .int (nI n), .ref 42, .int fl, .int fa, .int fw, .int fr, .int rs, .int ac, .ref 43, .ref 44, .ref 45, .ref 46, .ref 47, .ref 48, .ref 49])), (39, .inl (false, 22, (bkF s))), (40, .inl (false, 22, (bkF t))), (42, .inl (false, 60, f))]) rfl) (Nat.le_of_ble_eq_true rfl) (fun _ _ hq9 => E_fgo ?_ hq9)
  show E _ _ 17 [.ref 38, .int v] [.int (-5)] (hov hp [(38, .inr (7, [.ref 39, .ref 40, .int (sbu s), .int (nI q), .ref 41, .int (nI n), .ref 42, .int fl, .int fa, .int fw, .int fr, .int rs, .int ac, .ref 43, .ref 44, .ref 45, .ref 46, .ref 47, .ref 48, .ref 49])), (39, .inl (false, 22, (bkF s))), (40, .inl (false, 22, (bkF t))), (42, .inl (false, 60, f))]) _
  refine E_if_ge (tgt := 23) dX7_then_17 (by decide) (fun c => by first | exact absurd c (by decide) | exact absurd (by decide) c) (fun _ => ?_)
  refine E_bipush (v := (-5)) dX7_then_20 (by decide) ?_
  exact E_iretf dX7_then_22 rfl rfl rfl rfl

set_option maxHeartbeats 4000000 in
set_option maxRecDepth 20000 in
theorem m_then_n (d : Nat) (fl fa fw fr rs ac : Int32) (q n : Nat) (f : Nat → Int32) (hn : n ≤ 60) (s t : CS) (hs : OkS s) (hf : flt f n 0 false = -6) (hr : ¬ (wk f n 0 (wk0 s)).2 = 0) (v : Int32) (hv : inI v 0 6 = true) : FR YX7_then (d + 7) [.ref 38, .int v] [(38, .inr (7, [.ref 39, .ref 40, .int (sbu s), .int (nI q), .ref 41, .int (nI n), .ref 42, .int fl, .int fa, .int fw, .int fr, .int rs, .int ac, .ref 43, .ref 44, .ref 45, .ref 46, .ref 47, .ref 48, .ref 49])), (39, .inl (false, 22, (bkF s))), (40, .inl (false, 22, (bkF t))), (42, .inl (false, 60, f))] (fun v M => ∃ fr' rs' : Int32, M = [(38, .inr (7, [.ref 39, .ref 40, .int (sbu s), .int (nI q), .ref 41, .int (nI n), .ref 42, .int (wF ((wk f n 0 (wk0 s)).1)), .int (wG ((wk f n 0 (wk0 s)).1)), .int (wH ((wk f n 0 (wk0 s)).1)), .int fr', .int rs', .int (nI (wA ((wk f n 0 (wk0 s)).1))), .ref 43, .ref 44, .ref 45, .ref 46, .ref 47, .ref 48, .ref 49])), (39, .inl (false, 22, (bkF s))), (40, .inl (false, 22, (bkF (wS (wk f n 0 (wk0 s)).1)))), (42, .inl (false, 60, f))] ∧ v = some (.int (-5))) := by
  intro hp
  refine E_iload_n dX7_then_0 rfl ?_
  refine E_iconst (v := 0) dX7_then_1 (by decide) ?_
  refine E_bipush (v := 6) dX7_then_2 (by decide) ?_
  refine E_callS (As := [.int v, .int 0, .int 6]) (l' := [.int v, .int 0, .int 6]) (st := []) dX7_then_4 kX7_48 sX7_in MX7_in rfl rfl (Nat.le_of_ble_eq_true rfl) (FC.use (c_in (d + 6) _ _ _) rfl (L2 := [(38, .inr (7, [.ref 39, .ref 40, .int (sbu s), .int (nI q), .ref 41, .int (nI n), .ref 42, .int fl, .int fa, .int fw, .int fr, .int rs, .int ac, .ref 43, .ref 44, .ref 45, .ref 46, .ref 47, .ref 48, .ref 49])), (39, .inl (false, 22, (bkF s))), (40, .inl (false, 22, (bkF t))), (42, .inl (false, 60, f))]) rfl) (Nat.le_of_ble_eq_true rfl) (fun _ _ hq9 => E_fgo ?_ hq9)
  show E _ _ 7 [.ref 38, .int v] [.int (b2i (inI v 0 6))] (hov hp [(38, .inr (7, [.ref 39, .ref 40, .int (sbu s), .int (nI q), .ref 41, .int (nI n), .ref 42, .int fl, .int fa, .int fw, .int fr, .int rs, .int ac, .ref 43, .ref 44, .ref 45, .ref 46, .ref 47, .ref 48, .ref 49])), (39, .inl (false, 22, (bkF s))), (40, .inl (false, 22, (bkF t))), (42, .inl (false, 60, f))]) _
  refine E_if_ne (tgt := 13) dX7_then_7 (by decide) (fun _ => ?_) (fun c => (b2i_x1 hv c).elim)
  refine E_aload_n dX7_then_13 rfl ?_
  refine E_callV (As := []) (l' := [.ref 38]) (st := []) dX7_then_14 kX7_120 iX7_barOfWeeks vX7_barOfWeeks (by decide) rfl rfl MX7_barOfWeeks rfl rfl (Nat.le_of_ble_eq_true rfl) (FR.use (m_bar_0 d fl fa fw fr rs ac q n f hn s t hs hf hr) (L := [(38, .inr (7, [.ref 39, .ref 40, .int (sbu s), .int (nI q), .ref 41, .int (nI n), .ref 42, .int fl, .int fa, .int fw, .int fr, .int rs, .int ac, .ref 43, .ref 44, .ref 45, .ref 46, .ref 47, .ref 48, .ref 49])), (39, .inl (false, 22, (bkF s))), (40, .inl (false, 22, (bkF t))), (42, .inl (false, 60, f))]) rfl) (Nat.le_of_ble_eq_true rfl) ?_
  intro v9 h9 hq9
  obtain ⟨M, rfl, fr', rs', rfl, rfl⟩ := hq9
  show E _ _ 17 [.ref 38, .int v] [.int (-5)] (hov hp [(38, .inr (7, [.ref 39, .ref 40, .int (sbu s), .int (nI q), .ref 41, .int (nI n), .ref 42, .int (wF ((wk f n 0 (wk0 s)).1)), .int (wG ((wk f n 0 (wk0 s)).1)), .int (wH ((wk f n 0 (wk0 s)).1)), .int fr', .int rs', .int (nI (wA ((wk f n 0 (wk0 s)).1))), .ref 43, .ref 44, .ref 45, .ref 46, .ref 47, .ref 48, .ref 49])), (39, .inl (false, 22, (bkF s))), (40, .inl (false, 22, (bkF (wS (wk f n 0 (wk0 s)).1)))), (42, .inl (false, 60, f))]) _
  refine E_if_ge (tgt := 23) dX7_then_17 (by decide) (fun c => by first | exact absurd c (by decide) | exact absurd (by decide) c) (fun _ => ?_)
  refine E_bipush (v := (-5)) dX7_then_20 (by decide) ?_
  exact E_iret (st := []) dX7_then_22 rfl rfl ⟨_, rfl, fr', rs', rfl, rfl⟩

set_option maxHeartbeats 4000000 in
set_option maxRecDepth 20000 in
theorem m_then_0 (d : Nat) (fl fa fw fr rs ac : Int32) (q n : Nat) (f : Nat → Int32) (hn : n ≤ 60) (s t : CS) (hs : OkS s) (hf : flt f n 0 false = -6) (hr : (wk f n 0 (wk0 s)).2 = 0) : FR YX7_then (d + 7) [.ref 38, .int 0] [(38, .inr (7, [.ref 39, .ref 40, .int (sbu s), .int (nI q), .ref 41, .int (nI n), .ref 42, .int fl, .int fa, .int fw, .int fr, .int rs, .int ac, .ref 43, .ref 44, .ref 45, .ref 46, .ref 47, .ref 48, .ref 49])), (39, .inl (false, 22, (bkF s))), (40, .inl (false, 22, (bkF t))), (42, .inl (false, 60, f))] (fun v M => ∃ fr' rs' : Int32, M = [(38, .inr (7, [.ref 39, .ref 40, .int (sbu s), .int (nI q), .ref 41, .int (nI n), .ref 42, .int (wF ((wk f n 0 (wk0 s)).1)), .int (wG ((wk f n 0 (wk0 s)).1)), .int (wH ((wk f n 0 (wk0 s)).1)), .int fr', .int rs', .int (nI (wA ((wk f n 0 (wk0 s)).1))), .ref 43, .ref 44, .ref 45, .ref 46, .ref 47, .ref 48, .ref 49])), (39, .inl (false, 22, (bkF s))), (40, .inl (false, 22, (bkF (wS (wk f n 0 (wk0 s)).1)))), (42, .inl (false, 60, f))] ∧ v = some (.int (skn (wS (wk f n 0 (wk0 s)).1)))) := by
  intro hp
  refine E_iload_n dX7_then_0 rfl ?_
  refine E_iconst (v := 0) dX7_then_1 (by decide) ?_
  refine E_bipush (v := 6) dX7_then_2 (by decide) ?_
  refine E_callS (As := [.int 0, .int 0, .int 6]) (l' := [.int 0, .int 0, .int 6]) (st := []) dX7_then_4 kX7_48 sX7_in MX7_in rfl rfl (Nat.le_of_ble_eq_true rfl) (FC.use (c_in (d + 6) _ _ _) rfl (L2 := [(38, .inr (7, [.ref 39, .ref 40, .int (sbu s), .int (nI q), .ref 41, .int (nI n), .ref 42, .int fl, .int fa, .int fw, .int fr, .int rs, .int ac, .ref 43, .ref 44, .ref 45, .ref 46, .ref 47, .ref 48, .ref 49])), (39, .inl (false, 22, (bkF s))), (40, .inl (false, 22, (bkF t))), (42, .inl (false, 60, f))]) rfl) (Nat.le_of_ble_eq_true rfl) (fun _ _ hq9 => E_fgo ?_ hq9)
  show E _ _ 7 [.ref 38, .int 0] [.int (b2i (inI 0 0 6))] (hov hp [(38, .inr (7, [.ref 39, .ref 40, .int (sbu s), .int (nI q), .ref 41, .int (nI n), .ref 42, .int fl, .int fa, .int fw, .int fr, .int rs, .int ac, .ref 43, .ref 44, .ref 45, .ref 46, .ref 47, .ref 48, .ref 49])), (39, .inl (false, 22, (bkF s))), (40, .inl (false, 22, (bkF t))), (42, .inl (false, 60, f))]) _
  refine E_if_ne (tgt := 13) dX7_then_7 (by decide) (fun _ => ?_) (fun c => (b2i_x1 (by decide) c).elim)
  refine E_aload_n dX7_then_13 rfl ?_
  refine E_callV (As := []) (l' := [.ref 38]) (st := []) dX7_then_14 kX7_120 iX7_barOfWeeks vX7_barOfWeeks (by decide) rfl rfl MX7_barOfWeeks rfl rfl (Nat.le_of_ble_eq_true rfl) (FR.use (m_bar_1 d fl fa fw fr rs ac q n f hn s t hs hf hr) (L := [(38, .inr (7, [.ref 39, .ref 40, .int (sbu s), .int (nI q), .ref 41, .int (nI n), .ref 42, .int fl, .int fa, .int fw, .int fr, .int rs, .int ac, .ref 43, .ref 44, .ref 45, .ref 46, .ref 47, .ref 48, .ref 49])), (39, .inl (false, 22, (bkF s))), (40, .inl (false, 22, (bkF t))), (42, .inl (false, 60, f))]) rfl) (Nat.le_of_ble_eq_true rfl) ?_
  intro v9 h9 hq9
  obtain ⟨M, rfl, fr', rs', rfl, rfl⟩ := hq9
  show E _ _ 17 [.ref 38, .int 0] [.int 0] (hov hp [(38, .inr (7, [.ref 39, .ref 40, .int (sbu s), .int (nI q), .ref 41, .int (nI n), .ref 42, .int (wF ((wk f n 0 (wk0 s)).1)), .int (wG ((wk f n 0 (wk0 s)).1)), .int (wH ((wk f n 0 (wk0 s)).1)), .int fr', .int rs', .int (nI (wA ((wk f n 0 (wk0 s)).1))), .ref 43, .ref 44, .ref 45, .ref 46, .ref 47, .ref 48, .ref 49])), (39, .inl (false, 22, (bkF s))), (40, .inl (false, 22, (bkF (wS (wk f n 0 (wk0 s)).1)))), (42, .inl (false, 60, f))]) _
  refine E_if_ge (tgt := 23) dX7_then_17 (by decide) (fun _ => ?_) (fun c => by first | exact absurd c (by decide) | exact absurd (by decide) c)
  refine E_iload_n dX7_then_23 rfl ?_
  refine E_tableIn (off := 36) (tgt := 60) dX7_then_24 (by decide) (by decide) (by decide) (by decide) ?_
  refine E_aload_n dX7_then_60 rfl ?_
  refine E_get dX7_then_61 fX7_13 (by decide) rfl rfl ?_
  refine E_bipush (v := 19) dX7_then_64 (by decide) ?_
  refine E_ialdN (j := 19) dX7_then_66 (by decide) rfl (by omega) (by decide) ?_
  refine E_eqi (y := skn (wS (wk f n 0 (wk0 s)).1)) rfl ?_
  exact E_iret (st := []) dX7_then_67 rfl rfl ⟨_, rfl, fr', rs', rfl, rfl⟩

set_option maxHeartbeats 4000000 in
set_option maxRecDepth 20000 in
theorem m_then_1 (d : Nat) (fl fa fw fr rs ac : Int32) (q n : Nat) (f : Nat → Int32) (hn : n ≤ 60) (s t : CS) (hs : OkS s) (hf : flt f n 0 false = -6) (hr : (wk f n 0 (wk0 s)).2 = 0) : FR YX7_then (d + 7) [.ref 38, .int 1] [(38, .inr (7, [.ref 39, .ref 40, .int (sbu s), .int (nI q), .ref 41, .int (nI n), .ref 42, .int fl, .int fa, .int fw, .int fr, .int rs, .int ac, .ref 43, .ref 44, .ref 45, .ref 46, .ref 47, .ref 48, .ref 49])), (39, .inl (false, 22, (bkF s))), (40, .inl (false, 22, (bkF t))), (42, .inl (false, 60, f))] (fun v M => ∃ fr' rs' : Int32, M = [(38, .inr (7, [.ref 39, .ref 40, .int (sbu s), .int (nI q), .ref 41, .int (nI n), .ref 42, .int (wF ((wk f n 0 (wk0 s)).1)), .int (wG ((wk f n 0 (wk0 s)).1)), .int (wH ((wk f n 0 (wk0 s)).1)), .int fr', .int rs', .int (nI (wA ((wk f n 0 (wk0 s)).1))), .ref 43, .ref 44, .ref 45, .ref 46, .ref 47, .ref 48, .ref 49])), (39, .inl (false, 22, (bkF s))), (40, .inl (false, 22, (bkF (wS (wk f n 0 (wk0 s)).1)))), (42, .inl (false, 60, f))] ∧ v = some (.int (sdr (wS (wk f n 0 (wk0 s)).1)))) := by
  intro hp
  refine E_iload_n dX7_then_0 rfl ?_
  refine E_iconst (v := 0) dX7_then_1 (by decide) ?_
  refine E_bipush (v := 6) dX7_then_2 (by decide) ?_
  refine E_callS (As := [.int 1, .int 0, .int 6]) (l' := [.int 1, .int 0, .int 6]) (st := []) dX7_then_4 kX7_48 sX7_in MX7_in rfl rfl (Nat.le_of_ble_eq_true rfl) (FC.use (c_in (d + 6) _ _ _) rfl (L2 := [(38, .inr (7, [.ref 39, .ref 40, .int (sbu s), .int (nI q), .ref 41, .int (nI n), .ref 42, .int fl, .int fa, .int fw, .int fr, .int rs, .int ac, .ref 43, .ref 44, .ref 45, .ref 46, .ref 47, .ref 48, .ref 49])), (39, .inl (false, 22, (bkF s))), (40, .inl (false, 22, (bkF t))), (42, .inl (false, 60, f))]) rfl) (Nat.le_of_ble_eq_true rfl) (fun _ _ hq9 => E_fgo ?_ hq9)
  show E _ _ 7 [.ref 38, .int 1] [.int (b2i (inI 1 0 6))] (hov hp [(38, .inr (7, [.ref 39, .ref 40, .int (sbu s), .int (nI q), .ref 41, .int (nI n), .ref 42, .int fl, .int fa, .int fw, .int fr, .int rs, .int ac, .ref 43, .ref 44, .ref 45, .ref 46, .ref 47, .ref 48, .ref 49])), (39, .inl (false, 22, (bkF s))), (40, .inl (false, 22, (bkF t))), (42, .inl (false, 60, f))]) _
  refine E_if_ne (tgt := 13) dX7_then_7 (by decide) (fun _ => ?_) (fun c => (b2i_x1 (by decide) c).elim)
  refine E_aload_n dX7_then_13 rfl ?_
  refine E_callV (As := []) (l' := [.ref 38]) (st := []) dX7_then_14 kX7_120 iX7_barOfWeeks vX7_barOfWeeks (by decide) rfl rfl MX7_barOfWeeks rfl rfl (Nat.le_of_ble_eq_true rfl) (FR.use (m_bar_1 d fl fa fw fr rs ac q n f hn s t hs hf hr) (L := [(38, .inr (7, [.ref 39, .ref 40, .int (sbu s), .int (nI q), .ref 41, .int (nI n), .ref 42, .int fl, .int fa, .int fw, .int fr, .int rs, .int ac, .ref 43, .ref 44, .ref 45, .ref 46, .ref 47, .ref 48, .ref 49])), (39, .inl (false, 22, (bkF s))), (40, .inl (false, 22, (bkF t))), (42, .inl (false, 60, f))]) rfl) (Nat.le_of_ble_eq_true rfl) ?_
  intro v9 h9 hq9
  obtain ⟨M, rfl, fr', rs', rfl, rfl⟩ := hq9
  show E _ _ 17 [.ref 38, .int 1] [.int 0] (hov hp [(38, .inr (7, [.ref 39, .ref 40, .int (sbu s), .int (nI q), .ref 41, .int (nI n), .ref 42, .int (wF ((wk f n 0 (wk0 s)).1)), .int (wG ((wk f n 0 (wk0 s)).1)), .int (wH ((wk f n 0 (wk0 s)).1)), .int fr', .int rs', .int (nI (wA ((wk f n 0 (wk0 s)).1))), .ref 43, .ref 44, .ref 45, .ref 46, .ref 47, .ref 48, .ref 49])), (39, .inl (false, 22, (bkF s))), (40, .inl (false, 22, (bkF (wS (wk f n 0 (wk0 s)).1)))), (42, .inl (false, 60, f))]) _
  refine E_if_ge (tgt := 23) dX7_then_17 (by decide) (fun _ => ?_) (fun c => by first | exact absurd c (by decide) | exact absurd (by decide) c)
  refine E_iload_n dX7_then_23 rfl ?_
  refine E_tableIn (off := 44) (tgt := 68) dX7_then_24 (by decide) (by decide) (by decide) (by decide) ?_
  refine E_aload_n dX7_then_68 rfl ?_
  refine E_get dX7_then_69 fX7_13 (by decide) rfl rfl ?_
  refine E_bipush (v := 20) dX7_then_72 (by decide) ?_
  refine E_ialdN (j := 20) dX7_then_74 (by decide) rfl (by omega) (by decide) ?_
  refine E_eqi (y := sdr (wS (wk f n 0 (wk0 s)).1)) rfl ?_
  exact E_iret (st := []) dX7_then_75 rfl rfl ⟨_, rfl, fr', rs', rfl, rfl⟩

set_option maxHeartbeats 4000000 in
set_option maxRecDepth 20000 in
theorem m_then_2 (d : Nat) (fl fa fw fr rs ac : Int32) (q n : Nat) (f : Nat → Int32) (hn : n ≤ 60) (s t : CS) (hs : OkS s) (hf : flt f n 0 false = -6) (hr : (wk f n 0 (wk0 s)).2 = 0) : FR YX7_then (d + 7) [.ref 38, .int 2] [(38, .inr (7, [.ref 39, .ref 40, .int (sbu s), .int (nI q), .ref 41, .int (nI n), .ref 42, .int fl, .int fa, .int fw, .int fr, .int rs, .int ac, .ref 43, .ref 44, .ref 45, .ref 46, .ref 47, .ref 48, .ref 49])), (39, .inl (false, 22, (bkF s))), (40, .inl (false, 22, (bkF t))), (42, .inl (false, 60, f))] (fun v M => ∃ fr' rs' : Int32, M = [(38, .inr (7, [.ref 39, .ref 40, .int (sbu s), .int (nI q), .ref 41, .int (nI n), .ref 42, .int (wF ((wk f n 0 (wk0 s)).1)), .int (wG ((wk f n 0 (wk0 s)).1)), .int (wH ((wk f n 0 (wk0 s)).1)), .int fr', .int rs', .int (nI (wA ((wk f n 0 (wk0 s)).1))), .ref 43, .ref 44, .ref 45, .ref 46, .ref 47, .ref 48, .ref 49])), (39, .inl (false, 22, (bkF s))), (40, .inl (false, 22, (bkF (wS (wk f n 0 (wk0 s)).1)))), (42, .inl (false, 60, f))] ∧ v = some (.int (swa (wS (wk f n 0 (wk0 s)).1)))) := by
  intro hp
  refine E_iload_n dX7_then_0 rfl ?_
  refine E_iconst (v := 0) dX7_then_1 (by decide) ?_
  refine E_bipush (v := 6) dX7_then_2 (by decide) ?_
  refine E_callS (As := [.int 2, .int 0, .int 6]) (l' := [.int 2, .int 0, .int 6]) (st := []) dX7_then_4 kX7_48 sX7_in MX7_in rfl rfl (Nat.le_of_ble_eq_true rfl) (FC.use (c_in (d + 6) _ _ _) rfl (L2 := [(38, .inr (7, [.ref 39, .ref 40, .int (sbu s), .int (nI q), .ref 41, .int (nI n), .ref 42, .int fl, .int fa, .int fw, .int fr, .int rs, .int ac, .ref 43, .ref 44, .ref 45, .ref 46, .ref 47, .ref 48, .ref 49])), (39, .inl (false, 22, (bkF s))), (40, .inl (false, 22, (bkF t))), (42, .inl (false, 60, f))]) rfl) (Nat.le_of_ble_eq_true rfl) (fun _ _ hq9 => E_fgo ?_ hq9)
  show E _ _ 7 [.ref 38, .int 2] [.int (b2i (inI 2 0 6))] (hov hp [(38, .inr (7, [.ref 39, .ref 40, .int (sbu s), .int (nI q), .ref 41, .int (nI n), .ref 42, .int fl, .int fa, .int fw, .int fr, .int rs, .int ac, .ref 43, .ref 44, .ref 45, .ref 46, .ref 47, .ref 48, .ref 49])), (39, .inl (false, 22, (bkF s))), (40, .inl (false, 22, (bkF t))), (42, .inl (false, 60, f))]) _
  refine E_if_ne (tgt := 13) dX7_then_7 (by decide) (fun _ => ?_) (fun c => (b2i_x1 (by decide) c).elim)
  refine E_aload_n dX7_then_13 rfl ?_
  refine E_callV (As := []) (l' := [.ref 38]) (st := []) dX7_then_14 kX7_120 iX7_barOfWeeks vX7_barOfWeeks (by decide) rfl rfl MX7_barOfWeeks rfl rfl (Nat.le_of_ble_eq_true rfl) (FR.use (m_bar_1 d fl fa fw fr rs ac q n f hn s t hs hf hr) (L := [(38, .inr (7, [.ref 39, .ref 40, .int (sbu s), .int (nI q), .ref 41, .int (nI n), .ref 42, .int fl, .int fa, .int fw, .int fr, .int rs, .int ac, .ref 43, .ref 44, .ref 45, .ref 46, .ref 47, .ref 48, .ref 49])), (39, .inl (false, 22, (bkF s))), (40, .inl (false, 22, (bkF t))), (42, .inl (false, 60, f))]) rfl) (Nat.le_of_ble_eq_true rfl) ?_
  intro v9 h9 hq9
  obtain ⟨M, rfl, fr', rs', rfl, rfl⟩ := hq9
  show E _ _ 17 [.ref 38, .int 2] [.int 0] (hov hp [(38, .inr (7, [.ref 39, .ref 40, .int (sbu s), .int (nI q), .ref 41, .int (nI n), .ref 42, .int (wF ((wk f n 0 (wk0 s)).1)), .int (wG ((wk f n 0 (wk0 s)).1)), .int (wH ((wk f n 0 (wk0 s)).1)), .int fr', .int rs', .int (nI (wA ((wk f n 0 (wk0 s)).1))), .ref 43, .ref 44, .ref 45, .ref 46, .ref 47, .ref 48, .ref 49])), (39, .inl (false, 22, (bkF s))), (40, .inl (false, 22, (bkF (wS (wk f n 0 (wk0 s)).1)))), (42, .inl (false, 60, f))]) _
  refine E_if_ge (tgt := 23) dX7_then_17 (by decide) (fun _ => ?_) (fun c => by first | exact absurd c (by decide) | exact absurd (by decide) c)
  refine E_iload_n dX7_then_23 rfl ?_
  refine E_tableIn (off := 52) (tgt := 76) dX7_then_24 (by decide) (by decide) (by decide) (by decide) ?_
  refine E_aload_n dX7_then_76 rfl ?_
  refine E_get dX7_then_77 fX7_13 (by decide) rfl rfl ?_
  refine E_bipush (v := 18) dX7_then_80 (by decide) ?_
  refine E_ialdN (j := 18) dX7_then_82 (by decide) rfl (by omega) (by decide) ?_
  refine E_eqi (y := swa (wS (wk f n 0 (wk0 s)).1)) rfl ?_
  exact E_iret (st := []) dX7_then_83 rfl rfl ⟨_, rfl, fr', rs', rfl, rfl⟩

set_option maxHeartbeats 4000000 in
set_option maxRecDepth 20000 in
theorem m_then_3 (d : Nat) (fl fa fw fr rs ac : Int32) (q n : Nat) (f : Nat → Int32) (hn : n ≤ 60) (s t : CS) (hs : OkS s) (hf : flt f n 0 false = -6) (hr : (wk f n 0 (wk0 s)).2 = 0) : FR YX7_then (d + 7) [.ref 38, .int 3] [(38, .inr (7, [.ref 39, .ref 40, .int (sbu s), .int (nI q), .ref 41, .int (nI n), .ref 42, .int fl, .int fa, .int fw, .int fr, .int rs, .int ac, .ref 43, .ref 44, .ref 45, .ref 46, .ref 47, .ref 48, .ref 49])), (39, .inl (false, 22, (bkF s))), (40, .inl (false, 22, (bkF t))), (42, .inl (false, 60, f))] (fun v M => ∃ fr' rs' : Int32, M = [(38, .inr (7, [.ref 39, .ref 40, .int (sbu s), .int (nI q), .ref 41, .int (nI n), .ref 42, .int (wF ((wk f n 0 (wk0 s)).1)), .int (wG ((wk f n 0 (wk0 s)).1)), .int (wH ((wk f n 0 (wk0 s)).1)), .int fr', .int rs', .int (nI (wA ((wk f n 0 (wk0 s)).1))), .ref 43, .ref 44, .ref 45, .ref 46, .ref 47, .ref 48, .ref 49])), (39, .inl (false, 22, (bkF s))), (40, .inl (false, 22, (bkF (wS (wk f n 0 (wk0 s)).1)))), (42, .inl (false, 60, f))] ∧ v = some (.int (wF (wk f n 0 (wk0 s)).1))) := by
  intro hp
  refine E_iload_n dX7_then_0 rfl ?_
  refine E_iconst (v := 0) dX7_then_1 (by decide) ?_
  refine E_bipush (v := 6) dX7_then_2 (by decide) ?_
  refine E_callS (As := [.int 3, .int 0, .int 6]) (l' := [.int 3, .int 0, .int 6]) (st := []) dX7_then_4 kX7_48 sX7_in MX7_in rfl rfl (Nat.le_of_ble_eq_true rfl) (FC.use (c_in (d + 6) _ _ _) rfl (L2 := [(38, .inr (7, [.ref 39, .ref 40, .int (sbu s), .int (nI q), .ref 41, .int (nI n), .ref 42, .int fl, .int fa, .int fw, .int fr, .int rs, .int ac, .ref 43, .ref 44, .ref 45, .ref 46, .ref 47, .ref 48, .ref 49])), (39, .inl (false, 22, (bkF s))), (40, .inl (false, 22, (bkF t))), (42, .inl (false, 60, f))]) rfl) (Nat.le_of_ble_eq_true rfl) (fun _ _ hq9 => E_fgo ?_ hq9)
  show E _ _ 7 [.ref 38, .int 3] [.int (b2i (inI 3 0 6))] (hov hp [(38, .inr (7, [.ref 39, .ref 40, .int (sbu s), .int (nI q), .ref 41, .int (nI n), .ref 42, .int fl, .int fa, .int fw, .int fr, .int rs, .int ac, .ref 43, .ref 44, .ref 45, .ref 46, .ref 47, .ref 48, .ref 49])), (39, .inl (false, 22, (bkF s))), (40, .inl (false, 22, (bkF t))), (42, .inl (false, 60, f))]) _
  refine E_if_ne (tgt := 13) dX7_then_7 (by decide) (fun _ => ?_) (fun c => (b2i_x1 (by decide) c).elim)
  refine E_aload_n dX7_then_13 rfl ?_
  refine E_callV (As := []) (l' := [.ref 38]) (st := []) dX7_then_14 kX7_120 iX7_barOfWeeks vX7_barOfWeeks (by decide) rfl rfl MX7_barOfWeeks rfl rfl (Nat.le_of_ble_eq_true rfl) (FR.use (m_bar_1 d fl fa fw fr rs ac q n f hn s t hs hf hr) (L := [(38, .inr (7, [.ref 39, .ref 40, .int (sbu s), .int (nI q), .ref 41, .int (nI n), .ref 42, .int fl, .int fa, .int fw, .int fr, .int rs, .int ac, .ref 43, .ref 44, .ref 45, .ref 46, .ref 47, .ref 48, .ref 49])), (39, .inl (false, 22, (bkF s))), (40, .inl (false, 22, (bkF t))), (42, .inl (false, 60, f))]) rfl) (Nat.le_of_ble_eq_true rfl) ?_
  intro v9 h9 hq9
  obtain ⟨M, rfl, fr', rs', rfl, rfl⟩ := hq9
  show E _ _ 17 [.ref 38, .int 3] [.int 0] (hov hp [(38, .inr (7, [.ref 39, .ref 40, .int (sbu s), .int (nI q), .ref 41, .int (nI n), .ref 42, .int (wF ((wk f n 0 (wk0 s)).1)), .int (wG ((wk f n 0 (wk0 s)).1)), .int (wH ((wk f n 0 (wk0 s)).1)), .int fr', .int rs', .int (nI (wA ((wk f n 0 (wk0 s)).1))), .ref 43, .ref 44, .ref 45, .ref 46, .ref 47, .ref 48, .ref 49])), (39, .inl (false, 22, (bkF s))), (40, .inl (false, 22, (bkF (wS (wk f n 0 (wk0 s)).1)))), (42, .inl (false, 60, f))]) _
  refine E_if_ge (tgt := 23) dX7_then_17 (by decide) (fun _ => ?_) (fun c => by first | exact absurd c (by decide) | exact absurd (by decide) c)
  refine E_iload_n dX7_then_23 rfl ?_
  refine E_tableIn (off := 60) (tgt := 84) dX7_then_24 (by decide) (by decide) (by decide) (by decide) ?_
  refine E_aload_n dX7_then_84 rfl ?_
  refine E_get dX7_then_85 fX7_67 (by decide) rfl rfl ?_
  exact E_iret (st := []) dX7_then_88 rfl rfl ⟨_, rfl, fr', rs', rfl, rfl⟩

set_option maxHeartbeats 4000000 in
set_option maxRecDepth 20000 in
theorem m_then_4 (d : Nat) (fl fa fw fr rs ac : Int32) (q n : Nat) (f : Nat → Int32) (hn : n ≤ 60) (s t : CS) (hs : OkS s) (hf : flt f n 0 false = -6) (hr : (wk f n 0 (wk0 s)).2 = 0) : FR YX7_then (d + 7) [.ref 38, .int 4] [(38, .inr (7, [.ref 39, .ref 40, .int (sbu s), .int (nI q), .ref 41, .int (nI n), .ref 42, .int fl, .int fa, .int fw, .int fr, .int rs, .int ac, .ref 43, .ref 44, .ref 45, .ref 46, .ref 47, .ref 48, .ref 49])), (39, .inl (false, 22, (bkF s))), (40, .inl (false, 22, (bkF t))), (42, .inl (false, 60, f))] (fun v M => ∃ fr' rs' : Int32, M = [(38, .inr (7, [.ref 39, .ref 40, .int (sbu s), .int (nI q), .ref 41, .int (nI n), .ref 42, .int (wF ((wk f n 0 (wk0 s)).1)), .int (wG ((wk f n 0 (wk0 s)).1)), .int (wH ((wk f n 0 (wk0 s)).1)), .int fr', .int rs', .int (nI (wA ((wk f n 0 (wk0 s)).1))), .ref 43, .ref 44, .ref 45, .ref 46, .ref 47, .ref 48, .ref 49])), (39, .inl (false, 22, (bkF s))), (40, .inl (false, 22, (bkF (wS (wk f n 0 (wk0 s)).1)))), (42, .inl (false, 60, f))] ∧ v = some (.int (sni (wS (wk f n 0 (wk0 s)).1)))) := by
  intro hp
  refine E_iload_n dX7_then_0 rfl ?_
  refine E_iconst (v := 0) dX7_then_1 (by decide) ?_
  refine E_bipush (v := 6) dX7_then_2 (by decide) ?_
  refine E_callS (As := [.int 4, .int 0, .int 6]) (l' := [.int 4, .int 0, .int 6]) (st := []) dX7_then_4 kX7_48 sX7_in MX7_in rfl rfl (Nat.le_of_ble_eq_true rfl) (FC.use (c_in (d + 6) _ _ _) rfl (L2 := [(38, .inr (7, [.ref 39, .ref 40, .int (sbu s), .int (nI q), .ref 41, .int (nI n), .ref 42, .int fl, .int fa, .int fw, .int fr, .int rs, .int ac, .ref 43, .ref 44, .ref 45, .ref 46, .ref 47, .ref 48, .ref 49])), (39, .inl (false, 22, (bkF s))), (40, .inl (false, 22, (bkF t))), (42, .inl (false, 60, f))]) rfl) (Nat.le_of_ble_eq_true rfl) (fun _ _ hq9 => E_fgo ?_ hq9)
  show E _ _ 7 [.ref 38, .int 4] [.int (b2i (inI 4 0 6))] (hov hp [(38, .inr (7, [.ref 39, .ref 40, .int (sbu s), .int (nI q), .ref 41, .int (nI n), .ref 42, .int fl, .int fa, .int fw, .int fr, .int rs, .int ac, .ref 43, .ref 44, .ref 45, .ref 46, .ref 47, .ref 48, .ref 49])), (39, .inl (false, 22, (bkF s))), (40, .inl (false, 22, (bkF t))), (42, .inl (false, 60, f))]) _
  refine E_if_ne (tgt := 13) dX7_then_7 (by decide) (fun _ => ?_) (fun c => (b2i_x1 (by decide) c).elim)
  refine E_aload_n dX7_then_13 rfl ?_
  refine E_callV (As := []) (l' := [.ref 38]) (st := []) dX7_then_14 kX7_120 iX7_barOfWeeks vX7_barOfWeeks (by decide) rfl rfl MX7_barOfWeeks rfl rfl (Nat.le_of_ble_eq_true rfl) (FR.use (m_bar_1 d fl fa fw fr rs ac q n f hn s t hs hf hr) (L := [(38, .inr (7, [.ref 39, .ref 40, .int (sbu s), .int (nI q), .ref 41, .int (nI n), .ref 42, .int fl, .int fa, .int fw, .int fr, .int rs, .int ac, .ref 43, .ref 44, .ref 45, .ref 46, .ref 47, .ref 48, .ref 49])), (39, .inl (false, 22, (bkF s))), (40, .inl (false, 22, (bkF t))), (42, .inl (false, 60, f))]) rfl) (Nat.le_of_ble_eq_true rfl) ?_
  intro v9 h9 hq9
  obtain ⟨M, rfl, fr', rs', rfl, rfl⟩ := hq9
  show E _ _ 17 [.ref 38, .int 4] [.int 0] (hov hp [(38, .inr (7, [.ref 39, .ref 40, .int (sbu s), .int (nI q), .ref 41, .int (nI n), .ref 42, .int (wF ((wk f n 0 (wk0 s)).1)), .int (wG ((wk f n 0 (wk0 s)).1)), .int (wH ((wk f n 0 (wk0 s)).1)), .int fr', .int rs', .int (nI (wA ((wk f n 0 (wk0 s)).1))), .ref 43, .ref 44, .ref 45, .ref 46, .ref 47, .ref 48, .ref 49])), (39, .inl (false, 22, (bkF s))), (40, .inl (false, 22, (bkF (wS (wk f n 0 (wk0 s)).1)))), (42, .inl (false, 60, f))]) _
  refine E_if_ge (tgt := 23) dX7_then_17 (by decide) (fun _ => ?_) (fun c => by first | exact absurd c (by decide) | exact absurd (by decide) c)
  refine E_iload_n dX7_then_23 rfl ?_
  refine E_tableIn (off := 65) (tgt := 89) dX7_then_24 (by decide) (by decide) (by decide) (by decide) ?_
  refine E_aload_n dX7_then_89 rfl ?_
  refine E_get dX7_then_90 fX7_13 (by decide) rfl rfl ?_
  refine E_bipush (v := 21) dX7_then_93 (by decide) ?_
  refine E_ialdN (j := 21) dX7_then_95 (by decide) rfl (by omega) (by decide) ?_
  refine E_eqi (y := sni (wS (wk f n 0 (wk0 s)).1)) rfl ?_
  exact E_iret (st := []) dX7_then_96 rfl rfl ⟨_, rfl, fr', rs', rfl, rfl⟩

set_option maxHeartbeats 4000000 in
set_option maxRecDepth 20000 in
theorem m_then_5 (d : Nat) (fl fa fw fr rs ac : Int32) (q n : Nat) (f : Nat → Int32) (hn : n ≤ 60) (s t : CS) (hs : OkS s) (hf : flt f n 0 false = -6) (hr : (wk f n 0 (wk0 s)).2 = 0) : FR YX7_then (d + 7) [.ref 38, .int 5] [(38, .inr (7, [.ref 39, .ref 40, .int (sbu s), .int (nI q), .ref 41, .int (nI n), .ref 42, .int fl, .int fa, .int fw, .int fr, .int rs, .int ac, .ref 43, .ref 44, .ref 45, .ref 46, .ref 47, .ref 48, .ref 49])), (39, .inl (false, 22, (bkF s))), (40, .inl (false, 22, (bkF t))), (42, .inl (false, 60, f))] (fun v M => ∃ fr' rs' : Int32, M = [(38, .inr (7, [.ref 39, .ref 40, .int (sbu s), .int (nI q), .ref 41, .int (nI n), .ref 42, .int (wF ((wk f n 0 (wk0 s)).1)), .int (wG ((wk f n 0 (wk0 s)).1)), .int (wH ((wk f n 0 (wk0 s)).1)), .int fr', .int rs', .int (nI (wA ((wk f n 0 (wk0 s)).1))), .ref 43, .ref 44, .ref 45, .ref 46, .ref 47, .ref 48, .ref 49])), (39, .inl (false, 22, (bkF s))), (40, .inl (false, 22, (bkF (wS (wk f n 0 (wk0 s)).1)))), (42, .inl (false, 60, f))] ∧ v = some (.int (wG (wk f n 0 (wk0 s)).1))) := by
  intro hp
  refine E_iload_n dX7_then_0 rfl ?_
  refine E_iconst (v := 0) dX7_then_1 (by decide) ?_
  refine E_bipush (v := 6) dX7_then_2 (by decide) ?_
  refine E_callS (As := [.int 5, .int 0, .int 6]) (l' := [.int 5, .int 0, .int 6]) (st := []) dX7_then_4 kX7_48 sX7_in MX7_in rfl rfl (Nat.le_of_ble_eq_true rfl) (FC.use (c_in (d + 6) _ _ _) rfl (L2 := [(38, .inr (7, [.ref 39, .ref 40, .int (sbu s), .int (nI q), .ref 41, .int (nI n), .ref 42, .int fl, .int fa, .int fw, .int fr, .int rs, .int ac, .ref 43, .ref 44, .ref 45, .ref 46, .ref 47, .ref 48, .ref 49])), (39, .inl (false, 22, (bkF s))), (40, .inl (false, 22, (bkF t))), (42, .inl (false, 60, f))]) rfl) (Nat.le_of_ble_eq_true rfl) (fun _ _ hq9 => E_fgo ?_ hq9)
  show E _ _ 7 [.ref 38, .int 5] [.int (b2i (inI 5 0 6))] (hov hp [(38, .inr (7, [.ref 39, .ref 40, .int (sbu s), .int (nI q), .ref 41, .int (nI n), .ref 42, .int fl, .int fa, .int fw, .int fr, .int rs, .int ac, .ref 43, .ref 44, .ref 45, .ref 46, .ref 47, .ref 48, .ref 49])), (39, .inl (false, 22, (bkF s))), (40, .inl (false, 22, (bkF t))), (42, .inl (false, 60, f))]) _
  refine E_if_ne (tgt := 13) dX7_then_7 (by decide) (fun _ => ?_) (fun c => (b2i_x1 (by decide) c).elim)
  refine E_aload_n dX7_then_13 rfl ?_
  refine E_callV (As := []) (l' := [.ref 38]) (st := []) dX7_then_14 kX7_120 iX7_barOfWeeks vX7_barOfWeeks (by decide) rfl rfl MX7_barOfWeeks rfl rfl (Nat.le_of_ble_eq_true rfl) (FR.use (m_bar_1 d fl fa fw fr rs ac q n f hn s t hs hf hr) (L := [(38, .inr (7, [.ref 39, .ref 40, .int (sbu s), .int (nI q), .ref 41, .int (nI n), .ref 42, .int fl, .int fa, .int fw, .int fr, .int rs, .int ac, .ref 43, .ref 44, .ref 45, .ref 46, .ref 47, .ref 48, .ref 49])), (39, .inl (false, 22, (bkF s))), (40, .inl (false, 22, (bkF t))), (42, .inl (false, 60, f))]) rfl) (Nat.le_of_ble_eq_true rfl) ?_
  intro v9 h9 hq9
  obtain ⟨M, rfl, fr', rs', rfl, rfl⟩ := hq9
  show E _ _ 17 [.ref 38, .int 5] [.int 0] (hov hp [(38, .inr (7, [.ref 39, .ref 40, .int (sbu s), .int (nI q), .ref 41, .int (nI n), .ref 42, .int (wF ((wk f n 0 (wk0 s)).1)), .int (wG ((wk f n 0 (wk0 s)).1)), .int (wH ((wk f n 0 (wk0 s)).1)), .int fr', .int rs', .int (nI (wA ((wk f n 0 (wk0 s)).1))), .ref 43, .ref 44, .ref 45, .ref 46, .ref 47, .ref 48, .ref 49])), (39, .inl (false, 22, (bkF s))), (40, .inl (false, 22, (bkF (wS (wk f n 0 (wk0 s)).1)))), (42, .inl (false, 60, f))]) _
  refine E_if_ge (tgt := 23) dX7_then_17 (by decide) (fun _ => ?_) (fun c => by first | exact absurd c (by decide) | exact absurd (by decide) c)
  refine E_iload_n dX7_then_23 rfl ?_
  refine E_tableOut (tgt := 97) dX7_then_24 (by decide) (by decide) ?_
  refine E_iload_n dX7_then_97 rfl ?_
  refine E_iconst (v := 5) dX7_then_98 (by decide) ?_
  refine E_icmp_ne (tgt := 109) dX7_then_99 (by decide) (fun c => by first | exact absurd c (by decide) | exact absurd (by decide) c) (fun _ => ?_)
  refine E_aload_n dX7_then_102 rfl ?_
  refine E_get dX7_then_103 fX7_70 (by decide) rfl rfl ?_
  refine E_goto (tgt := 113) dX7_then_106 (by decide) ?_
  exact E_iret (st := []) dX7_then_113 rfl rfl ⟨_, rfl, fr', rs', rfl, rfl⟩

set_option maxHeartbeats 4000000 in
set_option maxRecDepth 20000 in
theorem m_then_6 (d : Nat) (fl fa fw fr rs ac : Int32) (q n : Nat) (f : Nat → Int32) (hn : n ≤ 60) (s t : CS) (hs : OkS s) (hf : flt f n 0 false = -6) (hr : (wk f n 0 (wk0 s)).2 = 0) : FR YX7_then (d + 7) [.ref 38, .int 6] [(38, .inr (7, [.ref 39, .ref 40, .int (sbu s), .int (nI q), .ref 41, .int (nI n), .ref 42, .int fl, .int fa, .int fw, .int fr, .int rs, .int ac, .ref 43, .ref 44, .ref 45, .ref 46, .ref 47, .ref 48, .ref 49])), (39, .inl (false, 22, (bkF s))), (40, .inl (false, 22, (bkF t))), (42, .inl (false, 60, f))] (fun v M => ∃ fr' rs' : Int32, M = [(38, .inr (7, [.ref 39, .ref 40, .int (sbu s), .int (nI q), .ref 41, .int (nI n), .ref 42, .int (wF ((wk f n 0 (wk0 s)).1)), .int (wG ((wk f n 0 (wk0 s)).1)), .int (wH ((wk f n 0 (wk0 s)).1)), .int fr', .int rs', .int (nI (wA ((wk f n 0 (wk0 s)).1))), .ref 43, .ref 44, .ref 45, .ref 46, .ref 47, .ref 48, .ref 49])), (39, .inl (false, 22, (bkF s))), (40, .inl (false, 22, (bkF (wS (wk f n 0 (wk0 s)).1)))), (42, .inl (false, 60, f))] ∧ v = some (.int (wH (wk f n 0 (wk0 s)).1))) := by
  intro hp
  refine E_iload_n dX7_then_0 rfl ?_
  refine E_iconst (v := 0) dX7_then_1 (by decide) ?_
  refine E_bipush (v := 6) dX7_then_2 (by decide) ?_
  refine E_callS (As := [.int 6, .int 0, .int 6]) (l' := [.int 6, .int 0, .int 6]) (st := []) dX7_then_4 kX7_48 sX7_in MX7_in rfl rfl (Nat.le_of_ble_eq_true rfl) (FC.use (c_in (d + 6) _ _ _) rfl (L2 := [(38, .inr (7, [.ref 39, .ref 40, .int (sbu s), .int (nI q), .ref 41, .int (nI n), .ref 42, .int fl, .int fa, .int fw, .int fr, .int rs, .int ac, .ref 43, .ref 44, .ref 45, .ref 46, .ref 47, .ref 48, .ref 49])), (39, .inl (false, 22, (bkF s))), (40, .inl (false, 22, (bkF t))), (42, .inl (false, 60, f))]) rfl) (Nat.le_of_ble_eq_true rfl) (fun _ _ hq9 => E_fgo ?_ hq9)
  show E _ _ 7 [.ref 38, .int 6] [.int (b2i (inI 6 0 6))] (hov hp [(38, .inr (7, [.ref 39, .ref 40, .int (sbu s), .int (nI q), .ref 41, .int (nI n), .ref 42, .int fl, .int fa, .int fw, .int fr, .int rs, .int ac, .ref 43, .ref 44, .ref 45, .ref 46, .ref 47, .ref 48, .ref 49])), (39, .inl (false, 22, (bkF s))), (40, .inl (false, 22, (bkF t))), (42, .inl (false, 60, f))]) _
  refine E_if_ne (tgt := 13) dX7_then_7 (by decide) (fun _ => ?_) (fun c => (b2i_x1 (by decide) c).elim)
  refine E_aload_n dX7_then_13 rfl ?_
  refine E_callV (As := []) (l' := [.ref 38]) (st := []) dX7_then_14 kX7_120 iX7_barOfWeeks vX7_barOfWeeks (by decide) rfl rfl MX7_barOfWeeks rfl rfl (Nat.le_of_ble_eq_true rfl) (FR.use (m_bar_1 d fl fa fw fr rs ac q n f hn s t hs hf hr) (L := [(38, .inr (7, [.ref 39, .ref 40, .int (sbu s), .int (nI q), .ref 41, .int (nI n), .ref 42, .int fl, .int fa, .int fw, .int fr, .int rs, .int ac, .ref 43, .ref 44, .ref 45, .ref 46, .ref 47, .ref 48, .ref 49])), (39, .inl (false, 22, (bkF s))), (40, .inl (false, 22, (bkF t))), (42, .inl (false, 60, f))]) rfl) (Nat.le_of_ble_eq_true rfl) ?_
  intro v9 h9 hq9
  obtain ⟨M, rfl, fr', rs', rfl, rfl⟩ := hq9
  show E _ _ 17 [.ref 38, .int 6] [.int 0] (hov hp [(38, .inr (7, [.ref 39, .ref 40, .int (sbu s), .int (nI q), .ref 41, .int (nI n), .ref 42, .int (wF ((wk f n 0 (wk0 s)).1)), .int (wG ((wk f n 0 (wk0 s)).1)), .int (wH ((wk f n 0 (wk0 s)).1)), .int fr', .int rs', .int (nI (wA ((wk f n 0 (wk0 s)).1))), .ref 43, .ref 44, .ref 45, .ref 46, .ref 47, .ref 48, .ref 49])), (39, .inl (false, 22, (bkF s))), (40, .inl (false, 22, (bkF (wS (wk f n 0 (wk0 s)).1)))), (42, .inl (false, 60, f))]) _
  refine E_if_ge (tgt := 23) dX7_then_17 (by decide) (fun _ => ?_) (fun c => by first | exact absurd c (by decide) | exact absurd (by decide) c)
  refine E_iload_n dX7_then_23 rfl ?_
  refine E_tableOut (tgt := 97) dX7_then_24 (by decide) (by decide) ?_
  refine E_iload_n dX7_then_97 rfl ?_
  refine E_iconst (v := 5) dX7_then_98 (by decide) ?_
  refine E_icmp_ne (tgt := 109) dX7_then_99 (by decide) (fun _ => ?_) (fun c => by first | exact absurd c (by decide) | exact absurd (by decide) c)
  refine E_aload_n dX7_then_109 rfl ?_
  refine E_get dX7_then_110 fX7_73 (by decide) rfl rfl ?_
  exact E_iret (st := []) dX7_then_113 rfl rfl ⟨_, rfl, fr', rs', rfl, rfl⟩
