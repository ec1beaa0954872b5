/-! the world between two calls: the class's cells, the reference's cells -/
def ZZ (f : Nat → Int32) : Prop := ∀ j, 8 ≤ j → f j = 0
def WC (rk : Nat) (s : CS) (f : Nat → Int32) (n : Nat) (sn : Nat → Int32) (sc : Nat → Int32) (q : Nat) (i0 : CS) (a0 : Nat → Int32) (b0 : Nat → Int32) (p0 : Nat) (k0 : Bool) (i1 : CS) (a1 : Nat → Int32) (b1 : Nat → Int32) (p1 : Nat) (k1 : Bool) (y0 : Int32) (y1 : Int32) (y2 : Int32) (y3 : Int32) (y4 : Int32) (y5 : Int32) (t : CS) (dn : Nat → Int32) (dd : Nat → Int32) (fi : Nat → Int32) (rv : Nat → Int32) : List (Nat × AC) := [(0, .inr (6, [.ref 1, .ref 5, .ref 7, .ref 10, .ref 18, .ref 26, .ref 31, .ref 35, .ref 37, .int (nI rk)])), (1, .inr (0, [.ref 2, .ref 3, .ref 4, .int (skn s), .int (sdr s), .int (swa s), .int (sbu s), .int (sni s)])), (2, .inl (false, 6, sce s)), (3, .inl (false, 6, she s)), (4, .inl (false, 6, stu s)), (5, .inr (3, [.ref 6, .int (nI n)])), (6, .inl (false, 60, f)), (7, .inr (4, [.ref 8, .ref 9, .int (nI q)])), (8, .inl (false, 8, sn)), (9, .inl (false, 8, sc)), (10, .inr (2, [.ref 11, .ref 15, .int (b2i k0)])), (11, .inr (0, [.ref 12, .ref 13, .ref 14, .int (skn i0), .int (sdr i0), .int (swa i0), .int (sbu i0), .int (sni i0)])), (12, .inl (false, 6, sce i0)), (13, .inl (false, 6, she i0)), (14, .inl (false, 6, stu i0)), (15, .inr (4, [.ref 16, .ref 17, .int (nI p0)])), (16, .inl (false, 8, a0)), (17, .inl (false, 8, b0)), (18, .inr (2, [.ref 19, .ref 23, .int (b2i k1)])), (19, .inr (0, [.ref 20, .ref 21, .ref 22, .int (skn i1), .int (sdr i1), .int (swa i1), .int (sbu i1), .int (sni i1)])), (20, .inl (false, 6, sce i1)), (21, .inl (false, 6, she i1)), (22, .inl (false, 6, stu i1)), (23, .inr (4, [.ref 24, .ref 25, .int (nI p1)])), (24, .inl (false, 8, a1)), (25, .inl (false, 8, b1)), (26, .inr (5, [.ref 27, .int y0, .int y1, .int y2, .int y3, .int y4, .int y5])), (27, .inr (0, [.ref 28, .ref 29, .ref 30, .int (skn t), .int (sdr t), .int (swa t), .int (sbu t), .int (sni t)])), (28, .inl (false, 6, sce t)), (29, .inl (false, 6, she t)), (30, .inl (false, 6, stu t)), (31, .inr (1, [.ref 32, .ref 33])), (32, .inl (false, 8, dn)), (33, .inl (false, 8, dd)), (35, .inl (false, 49, fi)), (37, .inl (false, 61, rv))]
def WM (s : CS) (f : Nat → Int32) (n : Nat) (sn : Nat → Int32) (sc : Nat → Int32) (q : Nat) (k0 : Bool) (k1 : Bool) (vl : Int32) (va : Int32) (vw : Int32) (vr : Int32) (vs : Int32) (vc : Int32) (t2 : CS) (tk : Nat → Int32) (du : Nat → Int32) (c2 : Nat → Int32) (wo : Nat → Int32) (cm : Nat → Int32) (g0 : Nat → Int32) (g1 : Nat → Int32) : List (Nat × AC) := [(38, .inr (7, [.ref 39, .ref 40, .int (sbu s), .int (nI q), .ref 41, .int (nI n), .ref 42, .int vl, .int va, .int vw, .int vr, .int vs, .int vc, .ref 43, .ref 44, .ref 45, .ref 46, .ref 47, .ref 48, .ref 49])), (39, .inl (false, 22, bkF s)), (40, .inl (false, 22, bkF t2)), (41, .inl (false, 16, sgF sn sc)), (42, .inl (false, 60, f)), (43, .inl (false, 8, tk)), (44, .inl (false, 8, du)), (45, .inl (false, 7, c2)), (46, .inl (false, 61, wo)), (47, .inl (true, 64, cm)), (48, .inl (false, 100, imgF g0 g1)), (49, .inl (true, 2, kpF k0 k1))]
def CI (C M : List (Nat × AC)) : Prop := ∃ (rk : Nat) (s : CS) (f : Nat → Int32) (n : Nat) (sn : Nat → Int32) (sc : Nat → Int32) (q : Nat) (i0 : CS) (a0 : Nat → Int32) (b0 : Nat → Int32) (p0 : Nat) (k0 : Bool) (i1 : CS) (a1 : Nat → Int32) (b1 : Nat → Int32) (p1 : Nat) (k1 : Bool) (y0 : Int32) (y1 : Int32) (y2 : Int32) (y3 : Int32) (y4 : Int32) (y5 : Int32) (t : CS) (dn : Nat → Int32) (dd : Nat → Int32) (fi : Nat → Int32) (rv : Nat → Int32) (vl : Int32) (va : Int32) (vw : Int32) (vr : Int32) (vs : Int32) (vc : Int32) (t2 : CS) (tk : Nat → Int32) (du : Nat → Int32) (c2 : Nat → Int32) (wo : Nat → Int32) (cm : Nat → Int32) (g0 : Nat → Int32) (g1 : Nat → Int32), C = WC rk s f n sn sc q i0 a0 b0 p0 k0 i1 a1 b1 p1 k1 y0 y1 y2 y3 y4 y5 t dn dd fi rv ∧ M = WM s f n sn sc q k0 k1 vl va vw vr vs vc t2 tk du c2 wo cm g0 g1 ∧ OkS s ∧ n ≤ 60 ∧ q ≤ 8 ∧ OkS t ∧ OkS i0 ∧ OkS i1 ∧ ZZ sn ∧ ZZ sc ∧ ZZ a0 ∧ ZZ b0 ∧ ZZ a1 ∧ ZZ b1 ∧ p0 ≤ 8 ∧ p1 ≤ 8 ∧ (∀ j, 7 ≤ j → c2 j = 0) ∧ 1 ≤ rk ∧ rk ≤ 61 ∧ (∀ i, i < rk → rv i = nI (K i)) ∧ (∀ i, i < 1 → wo i = nI (K i)) ∧ (∀ j, 64 ≤ j → cm j = 0) ∧ (k0 = true → ∃ g, g0 = slF i0 a0 b0 p0 g) ∧ (k1 = true → ∃ g, g1 = slF i1 a1 b1 p1 g)
theorem CI_mk {rk : Nat} {s : CS} {f : Nat → Int32} {n : Nat} {sn : Nat → Int32} {sc : Nat → Int32} {q : Nat} {i0 : CS} {a0 : Nat → Int32} {b0 : Nat → Int32} {p0 : Nat} {k0 : Bool} {i1 : CS} {a1 : Nat → Int32} {b1 : Nat → Int32} {p1 : Nat} {k1 : Bool} {y0 : Int32} {y1 : Int32} {y2 : Int32} {y3 : Int32} {y4 : Int32} {y5 : Int32} {t : CS} {dn : Nat → Int32} {dd : Nat → Int32} {fi : Nat → Int32} {rv : Nat → Int32} {vl : Int32} {va : Int32} {vw : Int32} {vr : Int32} {vs : Int32} {vc : Int32} {t2 : CS} {tk : Nat → Int32} {du : Nat → Int32} {c2 : Nat → Int32} {wo : Nat → Int32} {cm : Nat → Int32} {g0 : Nat → Int32} {g1 : Nat → Int32} (hs : OkS s) (hn : n ≤ 60) (hq : q ≤ 8) (ht : OkS t) (hi0 : OkS i0) (hi1 : OkS i1) (zn : ZZ sn) (zc : ZZ sc) (za0 : ZZ a0) (zb0 : ZZ b0) (za1 : ZZ a1) (zb1 : ZZ b1) (hp0 : p0 ≤ 8) (hp1 : p1 ≤ 8) (hc2 : ∀ j, 7 ≤ j → c2 j = 0) (hk1 : 1 ≤ rk) (hk2 : rk ≤ 61) (hrv : ∀ i, i < rk → rv i = nI (K i)) (hwo : ∀ i, i < 1 → wo i = nI (K i)) (hcm : ∀ j, 64 ≤ j → cm j = 0) (hg0 : k0 = true → ∃ g, g0 = slF i0 a0 b0 p0 g) (hg1 : k1 = true → ∃ g, g1 = slF i1 a1 b1 p1 g) : CI (WC rk s f n sn sc q i0 a0 b0 p0 k0 i1 a1 b1 p1 k1 y0 y1 y2 y3 y4 y5 t dn dd fi rv) (WM s f n sn sc q k0 k1 vl va vw vr vs vc t2 tk du c2 wo cm g0 g1) := ⟨rk, s, f, n, sn, sc, q, i0, a0, b0, p0, k0, i1, a1, b1, p1, k1, y0, y1, y2, y3, y4, y5, t, dn, dd, fi, rv, vl, va, vw, vr, vs, vc, t2, tk, du, c2, wo, cm, g0, g1, rfl, rfl, hs, hn, hq, ht, hi0, hi1, zn, zc, za0, zb0, za1, zb1, hp0, hp1, hc2, hk1, hk2, hrv, hwo, hcm, hg0, hg1⟩
def KLT (C : List (Nat × AC)) : Prop := C.all (fun p => decide (p.1 < 38)) = true
def KGE (M : List (Nat × AC)) : Prop := M.all (fun p => decide (38 ≤ p.1)) = true
theorem WC_klt (rk : Nat) (s : CS) (f : Nat → Int32) (n : Nat) (sn : Nat → Int32) (sc : Nat → Int32) (q : Nat) (i0 : CS) (a0 : Nat → Int32) (b0 : Nat → Int32) (p0 : Nat) (k0 : Bool) (i1 : CS) (a1 : Nat → Int32) (b1 : Nat → Int32) (p1 : Nat) (k1 : Bool) (y0 : Int32) (y1 : Int32) (y2 : Int32) (y3 : Int32) (y4 : Int32) (y5 : Int32) (t : CS) (dn : Nat → Int32) (dd : Nat → Int32) (fi : Nat → Int32) (rv : Nat → Int32) : KLT (WC rk s f n sn sc q i0 a0 b0 p0 k0 i1 a1 b1 p1 k1 y0 y1 y2 y3 y4 y5 t dn dd fi rv) := rfl
theorem CI_klt {C M : List (Nat × AC)} (h : CI C M) : KLT C := by
  obtain ⟨rk, s, f, n, sn, sc, q, i0, a0, b0, p0, k0, i1, a1, b1, p1, k1, y0, y1, y2, y3, y4, y5, t, dn, dd, fi, rv, vl, va, vw, vr, vs, vc, t2, tk, du, c2, wo, cm, g0, g1, rfl, -⟩ := h
  exact WC_klt _ _ _ _ _ _ _ _ _ _ _ _ _ _ _ _ _ _ _ _ _ _ _ _ _ _ _ _
theorem CI_kge {C M : List (Nat × AC)} (h : CI C M) : KGE M := by
  obtain ⟨rk, s, f, n, sn, sc, q, i0, a0, b0, p0, k0, i1, a1, b1, p1, k1, y0, y1, y2, y3, y4, y5, t, dn, dd, fi, rv, vl, va, vw, vr, vs, vc, t2, tk, du, c2, wo, cm, g0, g1, -, rfl, -⟩ := h
  rfl
theorem hov_in {hp hp2 : HP} : ∀ (C : List (Nat × AC)) (k : Nat), (∃ v, (k, v) ∈ C) → hov hp C k = hov hp2 C k
  | [], k, h => by obtain ⟨v, h⟩ := h; cases h
  | (a, b) :: C, k, h => by
    rw [hov_cons, hov_cons]
    show (if k = a then b else hov hp C k) = (if k = a then b else hov hp2 C k)
    by_cases e : k = a
    · rw [if_pos e, if_pos e]
    · rw [if_neg e, if_neg e]
      obtain ⟨v, h⟩ := h
      rcases List.mem_cons.mp h with h | h
      · exact absurd (congrArg Prod.fst h) e
      · exact hov_in C k ⟨v, h⟩
theorem hov_out {hp : HP} : ∀ (C : List (Nat × AC)) (k : Nat), (∀ p ∈ C, ¬ p.1 = k) → hov hp C k = hp k
  | [], _, _ => rfl
  | (a, b) :: C, k, h => by
    rw [hov_cons]
    show (if k = a then b else hov hp C k) = _
    rw [if_neg (fun e => h (a, b) List.mem_cons_self e.symm)]
    exact hov_out C k (fun p hp => h p (List.mem_cons_of_mem _ hp))
/-- cells of the class and cells of the reference lie apart: either may be told first -/
theorem hov_swap {hp : HP} {C M : List (Nat × AC)} (hC : KLT C) (hM : KGE M) : hov (hov hp M) C = hov (hov hp C) M := by
  have hC : ∀ p ∈ C, p.1 < 38 := fun p h => of_decide_eq_true (List.all_eq_true.mp hC p h)
  have hM : ∀ p ∈ M, 38 ≤ p.1 := fun p h => of_decide_eq_true (List.all_eq_true.mp hM p h)
  funext k
  by_cases hk : k < 38
  · rw [hov_out M k (fun p h e => absurd (hM p h) (by omega))]
    by_cases e : ∃ v, (k, v) ∈ C
    · exact hov_in C k e
    · rw [hov_out C k (fun p h e2 => e ⟨p.2, by rw [← e2]; exact h⟩), hov_out C k (fun p h e2 => e ⟨p.2, by rw [← e2]; exact h⟩), hov_out M k (fun p h e => absurd (hM p h) (by omega))]
  · rw [hov_out C k (fun p h e => absurd (hC p h) (by omega))]
    by_cases e : ∃ v, (k, v) ∈ M
    · exact hov_in M k e
    · rw [hov_out M k (fun p h e2 => e ⟨p.2, by rw [← e2]; exact h⟩), hov_out M k (fun p h e2 => e ⟨p.2, by rw [← e2]; exact h⟩), hov_out C k (fun p h e => absurd (hC p h) (by omega))]
/-- the same call of both: the same answer, and again a world -/
def SR (Yc Ym : MY) (lc lm : List Value) (C M : List (Nat × AC)) : Prop := ∃ r : Value, ∀ hp : HP, E Yc 7 0 lc [] (hov hp C) (fun v h => v = some r ∧ ∃ C1, h = hov hp C1 ∧ KLT C1 ∧ ∀ hp2 : HP, E Ym 7 0 lm [] (hov hp2 M) (fun v h => v = some r ∧ ∃ M1, h = hov hp2 M1 ∧ CI C1 M1))
def STEP (Yc Ym : MY) (lc lm : List Value) : Prop := ∀ C M : List (Nat × AC), CI C M → SR Yc Ym lc lm C M
section
variable {Yc Ym : MY} {lc lm : List Value} {C M C0 C0' M0 M0' C1 M1 : List (Nat × AC)} {r : Value}
theorem SFF (hc : FC Yc 7 lc C0 (some r) C0') (hm : FC Ym 7 lm M0 (some r) M0') (e0 : mrg C C0 = C) (e1 : mrg C C0' = C1) (f0 : mrg M M0 = M) (f1 : mrg M M0' = M1) (hI : CI C1 M1) : SR Yc Ym lc lm C M :=
  ⟨r, fun hp => E_mono (hc.use (hp := hp) e0 e1) (fun v h hq => ⟨hq.1, C1, hq.2, CI_klt hI, fun hp2 => E_mono (hm.use (hp := hp2) f0 f1) (fun v h hq => ⟨hq.1, M1, hq.2, hI⟩)⟩)⟩
theorem SFR {Rm : Option Value → List (Nat × AC) → Prop} (hc : FC Yc 7 lc C0 (some r) C0') (hm : FR Ym 7 lm M0 Rm) (e0 : mrg C C0 = C) (e1 : mrg C C0' = C1) (f0 : mrg M M0 = M) (hk : KLT C1) (hR : ∀ v Mx, Rm v Mx → v = some r ∧ ∃ M1, mrg M Mx = M1 ∧ CI C1 M1) : SR Yc Ym lc lm C M :=
  ⟨r, fun hp => E_mono (hc.use (hp := hp) e0 e1) (fun v h hq => ⟨hq.1, C1, hq.2, hk, fun hp2 => E_mono (hm.use (hp := hp2) f0) (fun v h hq => by
    obtain ⟨Mx, e, hx⟩ := hq
    obtain ⟨h1, M1, e2, h2⟩ := hR v Mx hx
    exact ⟨h1, M1, by rw [e, e2], h2⟩)⟩)⟩
theorem SRF {Rc : Option Value → List (Nat × AC) → Prop} (hc : FR Yc 7 lc C0 Rc) (hm : FC Ym 7 lm M0 (some r) M0') (e0 : mrg C C0 = C) (f0 : mrg M M0 = M) (f1 : mrg M M0' = M1) (hR : ∀ v Cx, Rc v Cx → v = some r ∧ ∃ C1, mrg C Cx = C1 ∧ CI C1 M1) : SR Yc Ym lc lm C M :=
  ⟨r, fun hp => E_mono (hc.use (hp := hp) e0) (fun v h hq => by
    obtain ⟨Cx, e, hx⟩ := hq
    obtain ⟨h1, C1, e2, h2⟩ := hR v Cx hx
    exact ⟨h1, C1, by rw [e, e2], CI_klt h2, fun hp2 => E_mono (hm.use (hp := hp2) f0 f1) (fun v h hq => ⟨hq.1, M1, hq.2, h2⟩)⟩)⟩
end
theorem L0 : Int32.toInt64 0 = 0 := by decide
theorem L1 : Int32.toInt64 1 = 1 := by decide
theorem L2 : Int32.toInt64 2 = 2 := by decide
theorem L5 : Int32.toInt64 5 = 5 := by decide
theorem L6 : Int32.toInt64 6 = 6 := by decide
theorem L8 : Int32.toInt64 8 = 8 := by decide
theorem L9 : Int32.toInt64 9 = 9 := by decide
theorem L10 : Int32.toInt64 10 = 10 := by decide
theorem L20 : Int32.toInt64 20 = 20 := by decide
theorem L24 : Int32.toInt64 24 = 24 := by decide
theorem L33 : Int32.toInt64 33 = 33 := by decide
theorem L60 : Int32.toInt64 60 = 60 := by decide
theorem L99 : Int32.toInt64 99 = 99 := by decide
theorem L126 : Int32.toInt64 126 = 126 := by decide
theorem L9999 : Int32.toInt64 9999 = 9999 := by decide
theorem Lm1 : Int32.toInt64 (-1) = (-1) := by decide
theorem bd_in {x hi : Int32} {k m : Nat} (h : inI x 0 hi = true) (hb : hi = nI k) (hk : k < 2 ^ 31) (hm : k < m) : Bd m x := by
  obtain ⟨j, -, h2, rfl⟩ := in_nI h (a := 0) rfl hb (Nat.zero_le _) hk
  exact ⟨j, by omega, rfl⟩
theorem cv_in {x : Int32} (h : inI x (-1) 24 = true) (h0 : 0 ≤ x) : Cv x := by
  have h1 : inI x 0 24 = true := by
    simp only [inI, Bool.and_eq_true, decide_eq_true_eq] at h ⊢
    exact ⟨h0, h.2⟩
  exact Or.inr (bd_in h1 (k := 24) rfl (by decide) (by decide))
theorem in01 {x : Int32} (h : inI x 0 1 = true) : x = 0 ∨ x = 1 := by
  obtain ⟨j, -, h2, rfl⟩ := in_nI h (a := 0) (b := 1) rfl rfl (by decide) (by decide)
  have : j = 0 ∨ j = 1 := by omega
  rcases this with rfl | rfl
  · exact Or.inl rfl
  · exact Or.inr rfl
theorem in02 {x : Int32} (h : inI x 0 2 = true) : x = 0 ∨ x = 1 ∨ x = 2 := by
  obtain ⟨j, -, h2, rfl⟩ := in_nI h (a := 0) (b := 2) rfl rfl (by decide) (by decide)
  have : j = 0 ∨ j = 1 ∨ j = 2 := by omega
  rcases this with rfl | rfl | rfl
  · exact Or.inl rfl
  · exact Or.inr (Or.inl rfl)
  · exact Or.inr (Or.inr rfl)
theorem in06 {x : Int32} (h : inI x 0 6 = true) : x = 0 ∨ x = 1 ∨ x = 2 ∨ x = 3 ∨ x = 4 ∨ x = 5 ∨ x = 6 := by
  obtain ⟨j, -, h2, rfl⟩ := in_nI h (a := 0) (b := 6) rfl rfl (by decide) (by decide)
  have : j = 0 ∨ j = 1 ∨ j = 2 ∨ j = 3 ∨ j = 4 ∨ j = 5 ∨ j = 6 := by omega
  rcases this with rfl | rfl | rfl | rfl | rfl | rfl | rfl
  · exact Or.inl rfl
  · exact Or.inr (Or.inl rfl)
  · exact Or.inr (Or.inr (Or.inl rfl))
  · exact Or.inr (Or.inr (Or.inr (Or.inl rfl)))
  · exact Or.inr (Or.inr (Or.inr (Or.inr (Or.inl rfl))))
  · exact Or.inr (Or.inr (Or.inr (Or.inr (Or.inr (Or.inl rfl)))))
  · exact Or.inr (Or.inr (Or.inr (Or.inr (Or.inr (Or.inr rfl)))))
theorem zz_upd {f : Nat → Int32} {k : Nat} {x : Int32} (h : ZZ f) (hk : k < 8) : ZZ (upd f k x) := fun j hj => by
  rw [upd_ne (by omega)]
  exact h j hj
theorem zz_eq {f g : Nat → Int32} (hf : ZZ f) (hg : ZZ g) : ∀ j, 8 ≤ j → f j = g j := fun j hj => by rw [hf j hj, hg j hj]
theorem she_0 {s : CS} (hs : OkS s) {h : Nat} (hh : h < 6) : 0 < she s h ↔ ¬ she s h = 0 := by
  obtain ⟨k, hk, e⟩ := hs.2.1 h hh
  rw [e]
  by_cases e0 : k = 0
  · subst e0
    exact ⟨fun h => absurd h (by decide), fun h => absurd rfl h⟩
  · exact ⟨fun _ => nI_ne0 (by omega) (by omega), fun _ => nI_lt (a := 0) (by omega) (by omega)⟩
