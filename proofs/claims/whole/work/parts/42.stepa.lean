set_option maxHeartbeats 4000000 in
set_option maxRecDepth 20000 in
theorem S_heap (xa xb xc xd : Int32) : STEP YX6_heap YX7_heap [.ref 0, .int xa, .int xb, .int xc, .int xd, .null, .null] [.ref 38, .int xa, .int xb, .int xc, .int xd, .null] := by
  intro C M hI
  obtain ⟨rk, s, f, n, sn, sc, q, i0, a0, b0, p0, k0, i1, a1, b1, p1, k1, y0, y1, y2, y3, y4, y5, t, dn, dd, db, fi, cc, rv, vl, va, vw, vr, vs, vc, t2, tk, du, c2, wo, cm, g0, g1, rfl, rfl, hs, hn, hq, ht, hi0, hi1, zn, zc, za0, zb0, za1, zb1, hp0, hp1, hcc, hc2, hk1, hk2, hrv, hwo, hcm, hg0, hg1⟩ := hI
  cases hv : inI xa 0 5 with
  | false =>
    exact SFF (C1 := WC rk s f n sn sc q i0 a0 b0 p0 k0 i1 a1 b1 p1 k1 y0 y1 y2 y3 y4 y5 t dn dd db fi cc rv) (M1 := WM s f n sn sc q k0 k1 vl va vw vr vs vc t2 tk du c2 wo cm g0 g1) (t_heap_unkA 5 rk xa xb xc xd (in_x hv L0 L5)) (m_heap_unkA 5 (sbu s) vl va vw vr vs vc q n xa xb xc xd hv) rfl rfl rfl rfl (CI_mk hs hn hq ht hi0 hi1 zn zc za0 zb0 za1 zb1 hp0 hp1 hcc hc2 hk1 hk2 hrv hwo hcm hg0 hg1)
  | true =>
    cases hc : inI xb (-1) 24 with
    | false =>
      exact SFF (C1 := WC rk s f n sn sc q i0 a0 b0 p0 k0 i1 a1 b1 p1 k1 y0 y1 y2 y3 y4 y5 t dn dd db fi cc rv) (M1 := WM s f n sn sc q k0 k1 vl va vw vr vs vc t2 tk du c2 wo cm g0 g1) (t_heap_unkB 5 rk xa xb xc xd (in_x hv L0 L5) (in_x hc Lm1 L24)) (m_heap_unkB 5 (sbu s) vl va vw vr vs vc q n xa xb xc xd hv hc) rfl rfl rfl rfl (CI_mk hs hn hq ht hi0 hi1 zn zc za0 zb0 za1 zb1 hp0 hp1 hcc hc2 hk1 hk2 hrv hwo hcm hg0 hg1)
    | true =>
      by_cases h0 : 0 ≤ xb
      · cases h1 : inI xc 0 9 with
        | false =>
          exact SFF (C1 := WC rk s f n sn sc q i0 a0 b0 p0 k0 i1 a1 b1 p1 k1 y0 y1 y2 y3 y4 y5 t dn dd db fi cc rv) (M1 := WM s f n sn sc q k0 k1 vl va vw vr vs vc t2 tk du c2 wo cm g0 g1) (t_heap_outA_pos 5 rk xa xb xc xd (in_x hv L0 L5) (in_x hc Lm1 L24) h0 (in_x h1 L0 rfl)) (m_heap_outA_pos 5 (sbu s) vl va vw vr vs vc q n xa xb xc xd hv hc h0 h1) rfl rfl rfl rfl (CI_mk hs hn hq ht hi0 hi1 zn zc za0 zb0 za1 zb1 hp0 hp1 hcc hc2 hk1 hk2 hrv hwo hcm hg0 hg1)
        | true =>
          cases h2 : inI xd 0 9 with
          | false =>
            exact SFF (C1 := WC rk s f n sn sc q i0 a0 b0 p0 k0 i1 a1 b1 p1 k1 y0 y1 y2 y3 y4 y5 t dn dd db fi cc rv) (M1 := WM s f n sn sc q k0 k1 vl va vw vr vs vc t2 tk du c2 wo cm g0 g1) (t_heap_outB_pos 5 rk xa xb xc xd (in_x hv L0 L5) (in_x hc Lm1 L24) h0 (in_x h1 L0 rfl) (in_x h2 L0 L9)) (m_heap_outB_pos 5 (sbu s) vl va vw vr vs vc q n xa xb xc xd hv hc h0 h1 h2) rfl rfl rfl rfl (CI_mk hs hn hq ht hi0 hi1 zn zc za0 zb0 za1 zb1 hp0 hp1 hcc hc2 hk1 hk2 hrv hwo hcm hg0 hg1)
          | true =>
            obtain ⟨h, -, hh, rfl⟩ := in_nI hv (a := 0) (b := 5) rfl rfl (by decide) (by decide)
            have hl : h < 6 := by omega
            cases hk : anyB (takP (sce s) xb h) 6 with
            | false =>
              exact SFF (C1 := WC rk (puS s h xb xc xd) f n sn sc q i0 a0 b0 p0 k0 i1 a1 b1 p1 k1 y0 y1 y2 y3 y4 y5 t dn dd db fi cc rv) (M1 := WM (puS s h xb xc xd) f n sn sc q k0 k1 vl va vw vr vs vc t2 tk du c2 wo cm g0 g1) (t_heap_pos 5 rk s h hl xb xc xd (in_x hv L0 L5) (in_x hc Lm1 L24) h0 (in_x h1 L0 rfl) (in_x h2 L0 L9) hk) (m_heap_pos 5 (sbu s) vl va vw vr vs vc q n s h hl xb xc xd hv hc h0 h1 h2 hk) rfl rfl rfl rfl (CI_mk (puS_ok hs hl (cv_in hc h0) (bd_in h1 (k := 9) rfl (by decide) (by decide)) (bd_in h2 (k := 9) rfl (by decide) (by decide))) hn hq ht hi0 hi1 zn zc za0 zb0 za1 zb1 hp0 hp1 hcc hc2 hk1 hk2 hrv hwo hcm hg0 hg1)
            | true =>
              exact SFF (C1 := WC rk s f n sn sc q i0 a0 b0 p0 k0 i1 a1 b1 p1 k1 y0 y1 y2 y3 y4 y5 t dn dd db fi cc rv) (M1 := WM s f n sn sc q k0 k1 vl va vw vr vs vc t2 tk du c2 wo cm g0 g1) (t_heap_state 5 rk s h hl xb xc xd (in_x hv L0 L5) (in_x hc Lm1 L24) h0 (in_x h1 L0 rfl) (in_x h2 L0 L9) hk) (m_heap_state 5 (sbu s) vl va vw vr vs vc q n s h hl xb xc xd hv hc h0 h1 h2 hk) rfl rfl rfl rfl (CI_mk hs hn hq ht hi0 hi1 zn zc za0 zb0 za1 zb1 hp0 hp1 hcc hc2 hk1 hk2 hrv hwo hcm hg0 hg1)
      · cases h1 : inI xc 0 0 with
        | false =>
          exact SFF (C1 := WC rk s f n sn sc q i0 a0 b0 p0 k0 i1 a1 b1 p1 k1 y0 y1 y2 y3 y4 y5 t dn dd db fi cc rv) (M1 := WM s f n sn sc q k0 k1 vl va vw vr vs vc t2 tk du c2 wo cm g0 g1) (t_heap_outA_neg 5 rk xa xb xc xd (in_x hv L0 L5) (in_x hc Lm1 L24) h0 (in_x h1 L0 rfl)) (m_heap_outA_neg 5 (sbu s) vl va vw vr vs vc q n xa xb xc xd hv hc h0 h1) rfl rfl rfl rfl (CI_mk hs hn hq ht hi0 hi1 zn zc za0 zb0 za1 zb1 hp0 hp1 hcc hc2 hk1 hk2 hrv hwo hcm hg0 hg1)
        | true =>
          cases h2 : inI xd 0 9 with
          | false =>
            exact SFF (C1 := WC rk s f n sn sc q i0 a0 b0 p0 k0 i1 a1 b1 p1 k1 y0 y1 y2 y3 y4 y5 t dn dd db fi cc rv) (M1 := WM s f n sn sc q k0 k1 vl va vw vr vs vc t2 tk du c2 wo cm g0 g1) (t_heap_outB_neg 5 rk xa xb xc xd (in_x hv L0 L5) (in_x hc Lm1 L24) h0 (in_x h1 L0 rfl) (in_x h2 L0 L9)) (m_heap_outB_neg 5 (sbu s) vl va vw vr vs vc q n xa xb xc xd hv hc h0 h1 h2) rfl rfl rfl rfl (CI_mk hs hn hq ht hi0 hi1 zn zc za0 zb0 za1 zb1 hp0 hp1 hcc hc2 hk1 hk2 hrv hwo hcm hg0 hg1)
          | true =>
            obtain ⟨h, -, hh, rfl⟩ := in_nI hv (a := 0) (b := 5) rfl rfl (by decide) (by decide)
            have hl : h < 6 := by omega
            exact SFF (C1 := WC rk (puS s h (-6) xc xd) f n sn sc q i0 a0 b0 p0 k0 i1 a1 b1 p1 k1 y0 y1 y2 y3 y4 y5 t dn dd db fi cc rv) (M1 := WM (puS s h (-6) xc xd) f n sn sc q k0 k1 vl va vw vr vs vc t2 tk du c2 wo cm g0 g1) (t_heap_neg 5 rk s h hl xb xc xd (in_x hv L0 L5) (in_x hc Lm1 L24) h0 (in_x h1 L0 rfl) (in_x h2 L0 L9)) (m_heap_neg 5 (sbu s) vl va vw vr vs vc q n s h hl xb xc xd hv hc h0 h1 h2) rfl rfl rfl rfl (CI_mk (puS_ok hs hl (Or.inl rfl) (bd_in h1 (k := 0) rfl (by decide) (by decide)) (bd_in h2 (k := 9) rfl (by decide) (by decide))) hn hq ht hi0 hi1 zn zc za0 zb0 za1 zb1 hp0 hp1 hcc hc2 hk1 hk2 hrv hwo hcm hg0 hg1)

set_option maxHeartbeats 4000000 in
set_option maxRecDepth 20000 in
theorem S_burn (xa : Int32) : STEP YX6_burners YX7_burners [.ref 0, .int xa, .null] [.ref 38, .int xa, .null] := by
  intro C M hI
  obtain ⟨rk, s, f, n, sn, sc, q, i0, a0, b0, p0, k0, i1, a1, b1, p1, k1, y0, y1, y2, y3, y4, y5, t, dn, dd, db, fi, cc, rv, vl, va, vw, vr, vs, vc, t2, tk, du, c2, wo, cm, g0, g1, rfl, rfl, hs, hn, hq, ht, hi0, hi1, zn, zc, za0, zb0, za1, zb1, hp0, hp1, hcc, hc2, hk1, hk2, hrv, hwo, hcm, hg0, hg1⟩ := hI
  cases hv : inI xa 0 6 with
  | false =>
    exact SFF (C1 := WC rk s f n sn sc q i0 a0 b0 p0 k0 i1 a1 b1 p1 k1 y0 y1 y2 y3 y4 y5 t dn dd db fi cc rv) (M1 := WM s f n sn sc q k0 k1 vl va vw vr vs vc t2 tk du c2 wo cm g0 g1) (t_burn_out 6 rk xa (in_x hv L0 L6)) (m_burn_out 6 (sbu s) vl va vw vr vs vc q n xa hv) rfl rfl rfl rfl (CI_mk hs hn hq ht hi0 hi1 zn zc za0 zb0 za1 zb1 hp0 hp1 hcc hc2 hk1 hk2 hrv hwo hcm hg0 hg1)
  | true =>
    by_cases hb : xa < bcI (swa s)
    · exact SFF (C1 := WC rk s f n sn sc q i0 a0 b0 p0 k0 i1 a1 b1 p1 k1 y0 y1 y2 y3 y4 y5 t dn dd db fi cc rv) (M1 := WM s f n sn sc q k0 k1 vl va vw vr vs vc t2 tk du c2 wo cm g0 g1) (t_burn_state 6 rk s xa (in_x hv L0 L6) hb) (m_burn_state 6 vl va vw vr vs vc q n s hs xa hv hb) rfl rfl rfl rfl (CI_mk hs hn hq ht hi0 hi1 zn zc za0 zb0 za1 zb1 hp0 hp1 hcc hc2 hk1 hk2 hrv hwo hcm hg0 hg1)
    · exact SFF (C1 := WC rk (setBu s xa) f n sn sc q i0 a0 b0 p0 k0 i1 a1 b1 p1 k1 y0 y1 y2 y3 y4 y5 t dn dd db fi cc rv) (M1 := WM (setBu s xa) f n sn sc q k0 k1 vl va vw vr vs vc t2 tk du c2 wo cm g0 g1) (t_burn_ok 6 rk s xa (in_x hv L0 L6) (Int32.not_lt.mp hb)) (m_burn_ok 6 vl va vw vr vs vc q n s hs xa hv (Int32.not_lt.mp hb)) rfl rfl rfl rfl (CI_mk (setBu_ok hs (bd_in hv (k := 6) rfl (by decide) (by decide))) hn hq ht hi0 hi1 zn zc za0 zb0 za1 zb1 hp0 hp1 hcc hc2 hk1 hk2 hrv hwo hcm hg0 hg1)

set_option maxHeartbeats 4000000 in
set_option maxRecDepth 20000 in
theorem S_say (xa : Int32) : STEP YX6_say YX7_say [.ref 0, .int xa] [.ref 38, .int xa] := by
  intro C M hI
  obtain ⟨rk, s, f, n, sn, sc, q, i0, a0, b0, p0, k0, i1, a1, b1, p1, k1, y0, y1, y2, y3, y4, y5, t, dn, dd, db, fi, cc, rv, vl, va, vw, vr, vs, vc, t2, tk, du, c2, wo, cm, g0, g1, rfl, rfl, hs, hn, hq, ht, hi0, hi1, zn, zc, za0, zb0, za1, zb1, hp0, hp1, hcc, hc2, hk1, hk2, hrv, hwo, hcm, hg0, hg1⟩ := hI
  cases hv : inI xa 33 126 with
  | false =>
    exact SFF (C1 := WC rk s f n sn sc q i0 a0 b0 p0 k0 i1 a1 b1 p1 k1 y0 y1 y2 y3 y4 y5 t dn dd db fi cc rv) (M1 := WM s f n sn sc q k0 k1 vl va vw vr vs vc t2 tk du c2 wo cm g0 g1) (t_say_out 6 rk xa (in_x hv L33 L126)) (m_say_out 6 (sbu s) vl va vw vr vs vc q n xa hv) rfl rfl rfl rfl (CI_mk hs hn hq ht hi0 hi1 zn zc za0 zb0 za1 zb1 hp0 hp1 hcc hc2 hk1 hk2 hrv hwo hcm hg0 hg1)
  | true =>
    by_cases h6 : n < 60
    · exact SFF (C1 := WC rk s (upd f n xa) (n + 1) sn sc q i0 a0 b0 p0 k0 i1 a1 b1 p1 k1 y0 y1 y2 y3 y4 y5 t dn dd db fi cc rv) (M1 := WM s (upd f n xa) (n + 1) sn sc q k0 k1 vl va vw vr vs vc t2 tk du c2 wo cm g0 g1) (t_say_ok 6 rk f n h6 xa (in_x hv L33 L126)) (m_say_ok 6 (sbu s) vl va vw vr vs vc q n f h6 xa hv) rfl rfl rfl rfl (CI_mk hs (by omega) hq ht hi0 hi1 zn zc za0 zb0 za1 zb1 hp0 hp1 hcc hc2 hk1 hk2 hrv hwo hcm hg0 hg1)
    · obtain rfl : n = 60 := by omega
      exact SFF (C1 := WC rk s f 60 sn sc q i0 a0 b0 p0 k0 i1 a1 b1 p1 k1 y0 y1 y2 y3 y4 y5 t dn dd db fi cc rv) (M1 := WM s f 60 sn sc q k0 k1 vl va vw vr vs vc t2 tk du c2 wo cm g0 g1) (t_say_full 6 rk f xa (in_x hv L33 L126)) (m_say_full 6 (sbu s) vl va vw vr vs vc q f xa hv) rfl rfl rfl rfl (CI_mk hs hn hq ht hi0 hi1 zn zc za0 zb0 za1 zb1 hp0 hp1 hcc hc2 hk1 hk2 hrv hwo hcm hg0 hg1)

set_option maxHeartbeats 4000000 in
set_option maxRecDepth 20000 in
theorem S_wipe  : STEP YX6_wipe YX7_wipe [.ref 0, .null] [.ref 38, .null] := by
  intro C M hI
  obtain ⟨rk, s, f, n, sn, sc, q, i0, a0, b0, p0, k0, i1, a1, b1, p1, k1, y0, y1, y2, y3, y4, y5, t, dn, dd, db, fi, cc, rv, vl, va, vw, vr, vs, vc, t2, tk, du, c2, wo, cm, g0, g1, rfl, rfl, hs, hn, hq, ht, hi0, hi1, zn, zc, za0, zb0, za1, zb1, hp0, hp1, hcc, hc2, hk1, hk2, hrv, hwo, hcm, hg0, hg1⟩ := hI
  exact SFF (C1 := WC rk s f 0 sn sc q i0 a0 b0 p0 k0 i1 a1 b1 p1 k1 y0 y1 y2 y3 y4 y5 t dn dd db fi cc rv) (M1 := WM s f 0 sn sc q k0 k1 vl va vw vr vs vc t2 tk du c2 wo cm g0 g1) (t_wipe 7 rk f n) (m_wipe 7 (sbu s) vl va vw vr vs vc q n) rfl rfl rfl rfl (CI_mk hs (by omega) hq ht hi0 hi1 zn zc za0 zb0 za1 zb1 hp0 hp1 hcc hc2 hk1 hk2 hrv hwo hcm hg0 hg1)

set_option maxHeartbeats 4000000 in
set_option maxRecDepth 20000 in
theorem S_fault  : STEP YX6_fault YX7_fault [.ref 0] [.ref 38] := by
  intro C M hI
  obtain ⟨rk, s, f, n, sn, sc, q, i0, a0, b0, p0, k0, i1, a1, b1, p1, k1, y0, y1, y2, y3, y4, y5, t, dn, dd, db, fi, cc, rv, vl, va, vw, vr, vs, vc, t2, tk, du, c2, wo, cm, g0, g1, rfl, rfl, hs, hn, hq, ht, hi0, hi1, zn, zc, za0, zb0, za1, zb1, hp0, hp1, hcc, hc2, hk1, hk2, hrv, hwo, hcm, hg0, hg1⟩ := hI
  exact SFF (C1 := WC rk s f n sn sc q i0 a0 b0 p0 k0 i1 a1 b1 p1 k1 y0 y1 y2 y3 y4 y5 t dn dd db fi cc rv) (M1 := WM s f n sn sc q k0 k1 vl va vw vr vs vc t2 tk du c2 wo cm g0 g1) (t_fault 3 rk f n hn) (m_fault 5 (sbu s) vl va vw vr vs vc q n f hn) rfl rfl rfl rfl (CI_mk hs hn hq ht hi0 hi1 zn zc za0 zb0 za1 zb1 hp0 hp1 hcc hc2 hk1 hk2 hrv hwo hcm hg0 hg1)

set_option maxHeartbeats 4000000 in
set_option maxRecDepth 20000 in
theorem S_judge (xa : Int32) : STEP YX6_judge YX7_judge [.ref 0, .int xa] [.ref 38, .int xa, .null] := by
  intro C M hI
  obtain ⟨rk, s, f, n, sn, sc, q, i0, a0, b0, p0, k0, i1, a1, b1, p1, k1, y0, y1, y2, y3, y4, y5, t, dn, dd, db, fi, cc, rv, vl, va, vw, vr, vs, vc, t2, tk, du, c2, wo, cm, g0, g1, rfl, rfl, hs, hn, hq, ht, hi0, hi1, zn, zc, za0, zb0, za1, zb1, hp0, hp1, hcc, hc2, hk1, hk2, hrv, hwo, hcm, hg0, hg1⟩ := hI
  cases hv : inI xa 0 1 with
  | false =>
    exact SFF (C1 := WC rk s f n sn sc q i0 a0 b0 p0 k0 i1 a1 b1 p1 k1 y0 y1 y2 y3 y4 y5 t dn dd db fi cc rv) (M1 := WM s f n sn sc q k0 k1 vl va vw vr vs vc t2 tk du c2 wo cm g0 g1) (t_judge_out 1 rk xa (in_x hv L0 L1)) (m_judge_out 0 (sbu s) vl va vw vr vs vc q n xa hv) rfl rfl rfl rfl (CI_mk hs hn hq ht hi0 hi1 zn zc za0 zb0 za1 zb1 hp0 hp1 hcc hc2 hk1 hk2 hrv hwo hcm hg0 hg1)
  | true =>
    by_cases hf : flt f n 0 false = -6
    · have hw := wk_ok n 0 (wk0 s) (by omega) hf hs
      rcases in01 hv with rfl | rfl
      · exact SFR (C1 := WC rk s f n sn sc q i0 a0 b0 p0 k0 i1 a1 b1 p1 k1 (nI (wA ((wk f n 0 (wk0 s)).1))) (stA (wk f n 0 (wk0 s))) (stW (wk f n 0 (wk0 s))) (wF ((wk f n 0 (wk0 s)).1)) (wG ((wk f n 0 (wk0 s)).1)) (wH ((wk f n 0 (wk0 s)).1)) (wS ((wk f n 0 (wk0 s)).1)) dn dd db fi cc rv) (t_judge_0 1 rk f n hn t s (ht.agr hs) y0 y1 y2 y3 y4 y5 hf) (m_judge_0 0 vl va vw vr vs vc q n f hn s t2 hs hf) rfl rfl rfl (WC_klt _ _ _ _ _ _ _ _ _ _ _ _ _ _ _ _ _ _ _ _ _ _ _ _ _ _ _ _ _ _) (fun v Mx hx => by
          obtain ⟨fr', rs', rfl, rfl⟩ := hx
          exact ⟨rfl, WM s f n sn sc q k0 k1 (wF ((wk f n 0 (wk0 s)).1)) (wG ((wk f n 0 (wk0 s)).1)) (wH ((wk f n 0 (wk0 s)).1)) fr' rs' (nI (wA ((wk f n 0 (wk0 s)).1))) (wS ((wk f n 0 (wk0 s)).1)) tk du c2 wo cm g0 g1, rfl, CI_mk hs hn hq hw.1 hi0 hi1 zn zc za0 zb0 za1 zb1 hp0 hp1 hcc hc2 hk1 hk2 hrv hwo hcm hg0 hg1⟩)
      · exact SFR (C1 := WC rk s f n sn sc q i0 a0 b0 p0 k0 i1 a1 b1 p1 k1 (nI (wA ((wk f n 0 (wk0 s)).1))) (stA (wk f n 0 (wk0 s))) (stW (wk f n 0 (wk0 s))) (wF ((wk f n 0 (wk0 s)).1)) (wG ((wk f n 0 (wk0 s)).1)) (wH ((wk f n 0 (wk0 s)).1)) (wS ((wk f n 0 (wk0 s)).1)) dn dd db fi cc rv) (t_judge_1 1 rk f n hn t s (ht.agr hs) y0 y1 y2 y3 y4 y5 hf) (m_judge_1 0 vl va vw vr vs vc q n f hn s t2 hs hf) rfl rfl rfl (WC_klt _ _ _ _ _ _ _ _ _ _ _ _ _ _ _ _ _ _ _ _ _ _ _ _ _ _ _ _ _ _) (fun v Mx hx => by
          obtain ⟨fr', rs', rfl, rfl⟩ := hx
          exact ⟨rfl, WM s f n sn sc q k0 k1 (wF ((wk f n 0 (wk0 s)).1)) (wG ((wk f n 0 (wk0 s)).1)) (wH ((wk f n 0 (wk0 s)).1)) fr' rs' (nI (wA ((wk f n 0 (wk0 s)).1))) (wS ((wk f n 0 (wk0 s)).1)) tk du c2 wo cm g0 g1, rfl, CI_mk hs hn hq hw.1 hi0 hi1 zn zc za0 zb0 za1 zb1 hp0 hp1 hcc hc2 hk1 hk2 hrv hwo hcm hg0 hg1⟩)
    · exact SFF (C1 := WC rk s f n sn sc q i0 a0 b0 p0 k0 i1 a1 b1 p1 k1 y0 y1 y2 y3 y4 y5 t dn dd db fi cc rv) (M1 := WM s f n sn sc q k0 k1 vl va vw vr vs vc t2 tk du c2 wo cm g0 g1) (t_judge_no 1 rk f n hn xa (in_x hv L0 L1) hf) (m_judge_no 0 vl va vw vr vs vc q n f hn s t2 hs hf xa hv) rfl rfl rfl rfl (CI_mk hs hn hq ht hi0 hi1 zn zc za0 zb0 za1 zb1 hp0 hp1 hcc hc2 hk1 hk2 hrv hwo hcm hg0 hg1)

set_option maxHeartbeats 4000000 in
set_option maxRecDepth 20000 in
theorem S_done  : STEP YX6_done YX7_done [.ref 0] [.ref 38, .null] := by
  intro C M hI
  obtain ⟨rk, s, f, n, sn, sc, q, i0, a0, b0, p0, k0, i1, a1, b1, p1, k1, y0, y1, y2, y3, y4, y5, t, dn, dd, db, fi, cc, rv, vl, va, vw, vr, vs, vc, t2, tk, du, c2, wo, cm, g0, g1, rfl, rfl, hs, hn, hq, ht, hi0, hi1, zn, zc, za0, zb0, za1, zb1, hp0, hp1, hcc, hc2, hk1, hk2, hrv, hwo, hcm, hg0, hg1⟩ := hI
  by_cases hf : flt f n 0 false = -6
  · have hw := wk_ok n 0 (wk0 s) (by omega) hf hs
    by_cases hr : (wk f n 0 (wk0 s)).2 = 0
    · have hb : sbu s = sbu (wS ((wk f n 0 (wk0 s)).1)) := hw.2.symm
      exact SFR (C1 := WC rk (wS ((wk f n 0 (wk0 s)).1)) f 0 sn sc q i0 a0 b0 p0 k0 i1 a1 b1 p1 k1 (nI (wA ((wk f n 0 (wk0 s)).1))) (stA (wk f n 0 (wk0 s))) (stW (wk f n 0 (wk0 s))) (wF ((wk f n 0 (wk0 s)).1)) (wG ((wk f n 0 (wk0 s)).1)) (wH ((wk f n 0 (wk0 s)).1)) (wS ((wk f n 0 (wk0 s)).1)) dn dd db fi cc rv) (t_done_ok 1 rk f n hn t s (ht.agr hs) y0 y1 y2 y3 y4 y5 hf (decide_eq_true hr) (hs.agr hw.1)) (m_done_ok 0 vl va vw vr vs vc q n f hn s t2 hs hf hr) rfl rfl rfl (WC_klt _ _ _ _ _ _ _ _ _ _ _ _ _ _ _ _ _ _ _ _ _ _ _ _ _ _ _ _ _ _) (fun v Mx hx => by
        obtain ⟨fr', rs', rfl, rfl⟩ := hx
        exact ⟨rfl, WM (wS ((wk f n 0 (wk0 s)).1)) f 0 sn sc q k0 k1 (wF ((wk f n 0 (wk0 s)).1)) (wG ((wk f n 0 (wk0 s)).1)) (wH ((wk f n 0 (wk0 s)).1)) fr' rs' (nI (wA ((wk f n 0 (wk0 s)).1))) (wS ((wk f n 0 (wk0 s)).1)) tk du c2 wo cm g0 g1, (by rw [hb]; rfl), CI_mk hw.1 (by omega) hq hw.1 hi0 hi1 zn zc za0 zb0 za1 zb1 hp0 hp1 hcc hc2 hk1 hk2 hrv hwo hcm hg0 hg1⟩)
    · exact SFR (C1 := WC rk s f n sn sc q i0 a0 b0 p0 k0 i1 a1 b1 p1 k1 (nI (wA ((wk f n 0 (wk0 s)).1))) (stA (wk f n 0 (wk0 s))) (stW (wk f n 0 (wk0 s))) (wF ((wk f n 0 (wk0 s)).1)) (wG ((wk f n 0 (wk0 s)).1)) (wH ((wk f n 0 (wk0 s)).1)) (wS ((wk f n 0 (wk0 s)).1)) dn dd db fi cc rv) (t_done_n 1 rk f n hn t s (ht.agr hs) y0 y1 y2 y3 y4 y5 hf (decide_eq_false hr)) (m_done_n 0 vl va vw vr vs vc q n f hn s t2 hs hf hr) rfl rfl rfl (WC_klt _ _ _ _ _ _ _ _ _ _ _ _ _ _ _ _ _ _ _ _ _ _ _ _ _ _ _ _ _ _) (fun v Mx hx => by
        obtain ⟨fr', rs', rfl, rfl⟩ := hx
        exact ⟨rfl, WM s f n sn sc q k0 k1 (wF ((wk f n 0 (wk0 s)).1)) (wG ((wk f n 0 (wk0 s)).1)) (wH ((wk f n 0 (wk0 s)).1)) fr' rs' (nI (wA ((wk f n 0 (wk0 s)).1))) (wS ((wk f n 0 (wk0 s)).1)) tk du c2 wo cm g0 g1, rfl, CI_mk hs hn hq hw.1 hi0 hi1 zn zc za0 zb0 za1 zb1 hp0 hp1 hcc hc2 hk1 hk2 hrv hwo hcm hg0 hg1⟩)
  · exact SFF (C1 := WC rk s f n sn sc q i0 a0 b0 p0 k0 i1 a1 b1 p1 k1 0 (-6) (-6) 0 (-6) (-6) s dn dd db fi cc rv) (M1 := WM s f n sn sc q k0 k1 vl va vw vr vs vc t2 tk du c2 wo cm g0 g1) (t_done_f 1 rk f n hn t s (ht.agr hs) y0 y1 y2 y3 y4 y5 hf) (m_done_f 0 vl va vw vr vs vc q n f hn s t2 hs hf) rfl rfl rfl rfl (CI_mk hs hn hq hs hi0 hi1 zn zc za0 zb0 za1 zb1 hp0 hp1 hcc hc2 hk1 hk2 hrv hwo hcm hg0 hg1)

set_option maxHeartbeats 4000000 in
set_option maxRecDepth 20000 in
theorem S_beh (xa xb : Int32) : STEP YX6_behind YX7_behind [.ref 0, .int xa, .int xb] [.ref 38, .int xa, .int xb] := by
  intro C M hI
  obtain ⟨rk, s, f, n, sn, sc, q, i0, a0, b0, p0, k0, i1, a1, b1, p1, k1, y0, y1, y2, y3, y4, y5, t, dn, dd, db, fi, cc, rv, vl, va, vw, vr, vs, vc, t2, tk, du, c2, wo, cm, g0, g1, rfl, rfl, hs, hn, hq, ht, hi0, hi1, zn, zc, za0, zb0, za1, zb1, hp0, hp1, hcc, hc2, hk1, hk2, hrv, hwo, hcm, hg0, hg1⟩ := hI
  cases hx : inI xa 0 5 with
  | false =>
    exact SFF (C1 := WC rk s f n sn sc q i0 a0 b0 p0 k0 i1 a1 b1 p1 k1 y0 y1 y2 y3 y4 y5 t dn dd db fi cc rv) (M1 := WM s f n sn sc q k0 k1 vl va vw vr vs vc t2 tk du c2 wo cm g0 g1) (t_beh_unk 1 rk xa xb (in_x hx L0 L5)) (m_beh_unk 0 (sbu s) vl va vw vr vs vc q n xa xb hx) rfl rfl rfl rfl (CI_mk hs hn hq ht hi0 hi1 zn zc za0 zb0 za1 zb1 hp0 hp1 hcc hc2 hk1 hk2 hrv hwo hcm hg0 hg1)
  | true =>
    cases hv : inI xb 0 2 with
    | false =>
      exact SFF (C1 := WC rk s f n sn sc q i0 a0 b0 p0 k0 i1 a1 b1 p1 k1 y0 y1 y2 y3 y4 y5 t dn dd db fi cc rv) (M1 := WM s f n sn sc q k0 k1 vl va vw vr vs vc t2 tk du c2 wo cm g0 g1) (t_beh_out 1 rk xa xb (in_x hx L0 L5) (in_x hv L0 L2)) (m_beh_out 0 (sbu s) vl va vw vr vs vc q n xa xb hx hv) rfl rfl rfl rfl (CI_mk hs hn hq ht hi0 hi1 zn zc za0 zb0 za1 zb1 hp0 hp1 hcc hc2 hk1 hk2 hrv hwo hcm hg0 hg1)
    | true =>
      by_cases hf : flt f n 0 false = -6
      · have hw := wk_ok n 0 (wk0 s) (by omega) hf hs
        by_cases hr : (wk f n 0 (wk0 s)).2 = 0
        · obtain ⟨h, -, hh, rfl⟩ := in_nI hx (a := 0) (b := 5) rfl rfl (by decide) (by decide)
          have hl : h < 6 := by omega
          rcases in02 hv with rfl | rfl | rfl
          · exact SFR (C1 := WC rk s f n sn sc q i0 a0 b0 p0 k0 i1 a1 b1 p1 k1 (nI (wA ((wk f n 0 (wk0 s)).1))) (stA (wk f n 0 (wk0 s))) (stW (wk f n 0 (wk0 s))) (wF ((wk f n 0 (wk0 s)).1)) (wG ((wk f n 0 (wk0 s)).1)) (wH ((wk f n 0 (wk0 s)).1)) (wS ((wk f n 0 (wk0 s)).1)) dn dd db fi cc rv) (t_beh_0 1 rk f n hn t s (ht.agr hs) y0 y1 y2 y3 y4 y5 hf (decide_eq_true hr) h hl (in_x hx L0 L5)) (m_beh_0 0 vl va vw vr vs vc q n f hn s t2 hs hf hr h hl hx) rfl rfl rfl (WC_klt _ _ _ _ _ _ _ _ _ _ _ _ _ _ _ _ _ _ _ _ _ _ _ _ _ _ _ _ _ _) (fun v Mx hx => by
              obtain ⟨fr', rs', rfl, rfl⟩ := hx
              exact ⟨rfl, WM s f n sn sc q k0 k1 (wF ((wk f n 0 (wk0 s)).1)) (wG ((wk f n 0 (wk0 s)).1)) (wH ((wk f n 0 (wk0 s)).1)) fr' rs' (nI (wA ((wk f n 0 (wk0 s)).1))) (wS ((wk f n 0 (wk0 s)).1)) tk du c2 wo cm g0 g1, rfl, CI_mk hs hn hq hw.1 hi0 hi1 zn zc za0 zb0 za1 zb1 hp0 hp1 hcc hc2 hk1 hk2 hrv hwo hcm hg0 hg1⟩)
          · exact SFR (C1 := WC rk s f n sn sc q i0 a0 b0 p0 k0 i1 a1 b1 p1 k1 (nI (wA ((wk f n 0 (wk0 s)).1))) (stA (wk f n 0 (wk0 s))) (stW (wk f n 0 (wk0 s))) (wF ((wk f n 0 (wk0 s)).1)) (wG ((wk f n 0 (wk0 s)).1)) (wH ((wk f n 0 (wk0 s)).1)) (wS ((wk f n 0 (wk0 s)).1)) dn dd db fi cc rv) (t_beh_1 1 rk f n hn t s (ht.agr hs) y0 y1 y2 y3 y4 y5 hf (decide_eq_true hr) h hl (in_x hx L0 L5)) (m_beh_1 0 vl va vw vr vs vc q n f hn s t2 hs hf hr h hl hx) rfl rfl rfl (WC_klt _ _ _ _ _ _ _ _ _ _ _ _ _ _ _ _ _ _ _ _ _ _ _ _ _ _ _ _ _ _) (fun v Mx hx => by
              obtain ⟨fr', rs', rfl, rfl⟩ := hx
              exact ⟨rfl, WM s f n sn sc q k0 k1 (wF ((wk f n 0 (wk0 s)).1)) (wG ((wk f n 0 (wk0 s)).1)) (wH ((wk f n 0 (wk0 s)).1)) fr' rs' (nI (wA ((wk f n 0 (wk0 s)).1))) (wS ((wk f n 0 (wk0 s)).1)) tk du c2 wo cm g0 g1, rfl, CI_mk hs hn hq hw.1 hi0 hi1 zn zc za0 zb0 za1 zb1 hp0 hp1 hcc hc2 hk1 hk2 hrv hwo hcm hg0 hg1⟩)
          · exact SFR (C1 := WC rk s f n sn sc q i0 a0 b0 p0 k0 i1 a1 b1 p1 k1 (nI (wA ((wk f n 0 (wk0 s)).1))) (stA (wk f n 0 (wk0 s))) (stW (wk f n 0 (wk0 s))) (wF ((wk f n 0 (wk0 s)).1)) (wG ((wk f n 0 (wk0 s)).1)) (wH ((wk f n 0 (wk0 s)).1)) (wS ((wk f n 0 (wk0 s)).1)) dn dd db fi cc rv) (t_beh_2 1 rk f n hn t s (ht.agr hs) y0 y1 y2 y3 y4 y5 hf (decide_eq_true hr) h hl (in_x hx L0 L5)) (m_beh_2 0 vl va vw vr vs vc q n f hn s t2 hs hf hr h hl hx) rfl rfl rfl (WC_klt _ _ _ _ _ _ _ _ _ _ _ _ _ _ _ _ _ _ _ _ _ _ _ _ _ _ _ _ _ _) (fun v Mx hx => by
              obtain ⟨fr', rs', rfl, rfl⟩ := hx
              exact ⟨rfl, WM s f n sn sc q k0 k1 (wF ((wk f n 0 (wk0 s)).1)) (wG ((wk f n 0 (wk0 s)).1)) (wH ((wk f n 0 (wk0 s)).1)) fr' rs' (nI (wA ((wk f n 0 (wk0 s)).1))) (wS ((wk f n 0 (wk0 s)).1)) tk du c2 wo cm g0 g1, rfl, CI_mk hs hn hq hw.1 hi0 hi1 zn zc za0 zb0 za1 zb1 hp0 hp1 hcc hc2 hk1 hk2 hrv hwo hcm hg0 hg1⟩)
        · exact SFR (C1 := WC rk s f n sn sc q i0 a0 b0 p0 k0 i1 a1 b1 p1 k1 (nI (wA ((wk f n 0 (wk0 s)).1))) (stA (wk f n 0 (wk0 s))) (stW (wk f n 0 (wk0 s))) (wF ((wk f n 0 (wk0 s)).1)) (wG ((wk f n 0 (wk0 s)).1)) (wH ((wk f n 0 (wk0 s)).1)) (wS ((wk f n 0 (wk0 s)).1)) dn dd db fi cc rv) (t_beh_n 1 rk f n hn t s (ht.agr hs) y0 y1 y2 y3 y4 y5 hf (decide_eq_false hr) xa xb (in_x hx L0 L5) (in_x hv L0 L2)) (m_beh_n 0 vl va vw vr vs vc q n f hn s t2 hs hf hr xa xb hx hv) rfl rfl rfl (WC_klt _ _ _ _ _ _ _ _ _ _ _ _ _ _ _ _ _ _ _ _ _ _ _ _ _ _ _ _ _ _) (fun v Mx hx => by
            obtain ⟨fr', rs', rfl, rfl⟩ := hx
            exact ⟨rfl, WM s f n sn sc q k0 k1 (wF ((wk f n 0 (wk0 s)).1)) (wG ((wk f n 0 (wk0 s)).1)) (wH ((wk f n 0 (wk0 s)).1)) fr' rs' (nI (wA ((wk f n 0 (wk0 s)).1))) (wS ((wk f n 0 (wk0 s)).1)) tk du c2 wo cm g0 g1, rfl, CI_mk hs hn hq hw.1 hi0 hi1 zn zc za0 zb0 za1 zb1 hp0 hp1 hcc hc2 hk1 hk2 hrv hwo hcm hg0 hg1⟩)
      · exact SFF (C1 := WC rk s f n sn sc q i0 a0 b0 p0 k0 i1 a1 b1 p1 k1 0 (-6) (-6) 0 (-6) (-6) s dn dd db fi cc rv) (M1 := WM s f n sn sc q k0 k1 vl va vw vr vs vc t2 tk du c2 wo cm g0 g1) (t_beh_f 1 rk f n hn t s (ht.agr hs) y0 y1 y2 y3 y4 y5 hf xa xb (in_x hx L0 L5) (in_x hv L0 L2)) (m_beh_f 0 vl va vw vr vs vc q n f hn s t2 hs hf xa xb hx hv) rfl rfl rfl rfl (CI_mk hs hn hq hs hi0 hi1 zn zc za0 zb0 za1 zb1 hp0 hp1 hcc hc2 hk1 hk2 hrv hwo hcm hg0 hg1)

set_option maxHeartbeats 4000000 in
set_option maxRecDepth 20000 in
theorem S_then (xa : Int32) : STEP YX6_then YX7_then [.ref 0, .int xa] [.ref 38, .int xa] := by
  intro C M hI
  obtain ⟨rk, s, f, n, sn, sc, q, i0, a0, b0, p0, k0, i1, a1, b1, p1, k1, y0, y1, y2, y3, y4, y5, t, dn, dd, db, fi, cc, rv, vl, va, vw, vr, vs, vc, t2, tk, du, c2, wo, cm, g0, g1, rfl, rfl, hs, hn, hq, ht, hi0, hi1, zn, zc, za0, zb0, za1, zb1, hp0, hp1, hcc, hc2, hk1, hk2, hrv, hwo, hcm, hg0, hg1⟩ := hI
  cases hv : inI xa 0 6 with
  | false =>
    exact SFF (C1 := WC rk s f n sn sc q i0 a0 b0 p0 k0 i1 a1 b1 p1 k1 y0 y1 y2 y3 y4 y5 t dn dd db fi cc rv) (M1 := WM s f n sn sc q k0 k1 vl va vw vr vs vc t2 tk du c2 wo cm g0 g1) (t_then_out 1 rk xa (in_x hv L0 L6)) (m_then_out 0 (sbu s) vl va vw vr vs vc q n xa hv) rfl rfl rfl rfl (CI_mk hs hn hq ht hi0 hi1 zn zc za0 zb0 za1 zb1 hp0 hp1 hcc hc2 hk1 hk2 hrv hwo hcm hg0 hg1)
  | true =>
    by_cases hf : flt f n 0 false = -6
    · have hw := wk_ok n 0 (wk0 s) (by omega) hf hs
      by_cases hr : (wk f n 0 (wk0 s)).2 = 0
      · rcases in06 hv with rfl | rfl | rfl | rfl | rfl | rfl | rfl
        · exact SFR (C1 := WC rk s f n sn sc q i0 a0 b0 p0 k0 i1 a1 b1 p1 k1 (nI (wA ((wk f n 0 (wk0 s)).1))) (stA (wk f n 0 (wk0 s))) (stW (wk f n 0 (wk0 s))) (wF ((wk f n 0 (wk0 s)).1)) (wG ((wk f n 0 (wk0 s)).1)) (wH ((wk f n 0 (wk0 s)).1)) (wS ((wk f n 0 (wk0 s)).1)) dn dd db fi cc rv) (t_then_0 1 rk f n hn t s (ht.agr hs) y0 y1 y2 y3 y4 y5 hf (decide_eq_true hr)) (m_then_0 0 vl va vw vr vs vc q n f hn s t2 hs hf hr) rfl rfl rfl (WC_klt _ _ _ _ _ _ _ _ _ _ _ _ _ _ _ _ _ _ _ _ _ _ _ _ _ _ _ _ _ _) (fun v Mx hx => by
            obtain ⟨fr', rs', rfl, rfl⟩ := hx
            exact ⟨rfl, WM s f n sn sc q k0 k1 (wF ((wk f n 0 (wk0 s)).1)) (wG ((wk f n 0 (wk0 s)).1)) (wH ((wk f n 0 (wk0 s)).1)) fr' rs' (nI (wA ((wk f n 0 (wk0 s)).1))) (wS ((wk f n 0 (wk0 s)).1)) tk du c2 wo cm g0 g1, rfl, CI_mk hs hn hq hw.1 hi0 hi1 zn zc za0 zb0 za1 zb1 hp0 hp1 hcc hc2 hk1 hk2 hrv hwo hcm hg0 hg1⟩)
        · exact SFR (C1 := WC rk s f n sn sc q i0 a0 b0 p0 k0 i1 a1 b1 p1 k1 (nI (wA ((wk f n 0 (wk0 s)).1))) (stA (wk f n 0 (wk0 s))) (stW (wk f n 0 (wk0 s))) (wF ((wk f n 0 (wk0 s)).1)) (wG ((wk f n 0 (wk0 s)).1)) (wH ((wk f n 0 (wk0 s)).1)) (wS ((wk f n 0 (wk0 s)).1)) dn dd db fi cc rv) (t_then_1 1 rk f n hn t s (ht.agr hs) y0 y1 y2 y3 y4 y5 hf (decide_eq_true hr)) (m_then_1 0 vl va vw vr vs vc q n f hn s t2 hs hf hr) rfl rfl rfl (WC_klt _ _ _ _ _ _ _ _ _ _ _ _ _ _ _ _ _ _ _ _ _ _ _ _ _ _ _ _ _ _) (fun v Mx hx => by
            obtain ⟨fr', rs', rfl, rfl⟩ := hx
            exact ⟨rfl, WM s f n sn sc q k0 k1 (wF ((wk f n 0 (wk0 s)).1)) (wG ((wk f n 0 (wk0 s)).1)) (wH ((wk f n 0 (wk0 s)).1)) fr' rs' (nI (wA ((wk f n 0 (wk0 s)).1))) (wS ((wk f n 0 (wk0 s)).1)) tk du c2 wo cm g0 g1, rfl, CI_mk hs hn hq hw.1 hi0 hi1 zn zc za0 zb0 za1 zb1 hp0 hp1 hcc hc2 hk1 hk2 hrv hwo hcm hg0 hg1⟩)
        · exact SFR (C1 := WC rk s f n sn sc q i0 a0 b0 p0 k0 i1 a1 b1 p1 k1 (nI (wA ((wk f n 0 (wk0 s)).1))) (stA (wk f n 0 (wk0 s))) (stW (wk f n 0 (wk0 s))) (wF ((wk f n 0 (wk0 s)).1)) (wG ((wk f n 0 (wk0 s)).1)) (wH ((wk f n 0 (wk0 s)).1)) (wS ((wk f n 0 (wk0 s)).1)) dn dd db fi cc rv) (t_then_2 1 rk f n hn t s (ht.agr hs) y0 y1 y2 y3 y4 y5 hf (decide_eq_true hr)) (m_then_2 0 vl va vw vr vs vc q n f hn s t2 hs hf hr) rfl rfl rfl (WC_klt _ _ _ _ _ _ _ _ _ _ _ _ _ _ _ _ _ _ _ _ _ _ _ _ _ _ _ _ _ _) (fun v Mx hx => by
            obtain ⟨fr', rs', rfl, rfl⟩ := hx
            exact ⟨rfl, WM s f n sn sc q k0 k1 (wF ((wk f n 0 (wk0 s)).1)) (wG ((wk f n 0 (wk0 s)).1)) (wH ((wk f n 0 (wk0 s)).1)) fr' rs' (nI (wA ((wk f n 0 (wk0 s)).1))) (wS ((wk f n 0 (wk0 s)).1)) tk du c2 wo cm g0 g1, rfl, CI_mk hs hn hq hw.1 hi0 hi1 zn zc za0 zb0 za1 zb1 hp0 hp1 hcc hc2 hk1 hk2 hrv hwo hcm hg0 hg1⟩)
        · exact SFR (C1 := WC rk s f n sn sc q i0 a0 b0 p0 k0 i1 a1 b1 p1 k1 (nI (wA ((wk f n 0 (wk0 s)).1))) (stA (wk f n 0 (wk0 s))) (stW (wk f n 0 (wk0 s))) (wF ((wk f n 0 (wk0 s)).1)) (wG ((wk f n 0 (wk0 s)).1)) (wH ((wk f n 0 (wk0 s)).1)) (wS ((wk f n 0 (wk0 s)).1)) dn dd db fi cc rv) (t_then_3 1 rk f n hn t s (ht.agr hs) y0 y1 y2 y3 y4 y5 hf (decide_eq_true hr)) (m_then_3 0 vl va vw vr vs vc q n f hn s t2 hs hf hr) rfl rfl rfl (WC_klt _ _ _ _ _ _ _ _ _ _ _ _ _ _ _ _ _ _ _ _ _ _ _ _ _ _ _ _ _ _) (fun v Mx hx => by
            obtain ⟨fr', rs', rfl, rfl⟩ := hx
            exact ⟨rfl, WM s f n sn sc q k0 k1 (wF ((wk f n 0 (wk0 s)).1)) (wG ((wk f n 0 (wk0 s)).1)) (wH ((wk f n 0 (wk0 s)).1)) fr' rs' (nI (wA ((wk f n 0 (wk0 s)).1))) (wS ((wk f n 0 (wk0 s)).1)) tk du c2 wo cm g0 g1, rfl, CI_mk hs hn hq hw.1 hi0 hi1 zn zc za0 zb0 za1 zb1 hp0 hp1 hcc hc2 hk1 hk2 hrv hwo hcm hg0 hg1⟩)
        · exact SFR (C1 := WC rk s f n sn sc q i0 a0 b0 p0 k0 i1 a1 b1 p1 k1 (nI (wA ((wk f n 0 (wk0 s)).1))) (stA (wk f n 0 (wk0 s))) (stW (wk f n 0 (wk0 s))) (wF ((wk f n 0 (wk0 s)).1)) (wG ((wk f n 0 (wk0 s)).1)) (wH ((wk f n 0 (wk0 s)).1)) (wS ((wk f n 0 (wk0 s)).1)) dn dd db fi cc rv) (t_then_4 1 rk f n hn t s (ht.agr hs) y0 y1 y2 y3 y4 y5 hf (decide_eq_true hr)) (m_then_4 0 vl va vw vr vs vc q n f hn s t2 hs hf hr) rfl rfl rfl (WC_klt _ _ _ _ _ _ _ _ _ _ _ _ _ _ _ _ _ _ _ _ _ _ _ _ _ _ _ _ _ _) (fun v Mx hx => by
            obtain ⟨fr', rs', rfl, rfl⟩ := hx
            exact ⟨rfl, WM s f n sn sc q k0 k1 (wF ((wk f n 0 (wk0 s)).1)) (wG ((wk f n 0 (wk0 s)).1)) (wH ((wk f n 0 (wk0 s)).1)) fr' rs' (nI (wA ((wk f n 0 (wk0 s)).1))) (wS ((wk f n 0 (wk0 s)).1)) tk du c2 wo cm g0 g1, rfl, CI_mk hs hn hq hw.1 hi0 hi1 zn zc za0 zb0 za1 zb1 hp0 hp1 hcc hc2 hk1 hk2 hrv hwo hcm hg0 hg1⟩)
        · exact SFR (C1 := WC rk s f n sn sc q i0 a0 b0 p0 k0 i1 a1 b1 p1 k1 (nI (wA ((wk f n 0 (wk0 s)).1))) (stA (wk f n 0 (wk0 s))) (stW (wk f n 0 (wk0 s))) (wF ((wk f n 0 (wk0 s)).1)) (wG ((wk f n 0 (wk0 s)).1)) (wH ((wk f n 0 (wk0 s)).1)) (wS ((wk f n 0 (wk0 s)).1)) dn dd db fi cc rv) (t_then_5 1 rk f n hn t s (ht.agr hs) y0 y1 y2 y3 y4 y5 hf (decide_eq_true hr)) (m_then_5 0 vl va vw vr vs vc q n f hn s t2 hs hf hr) rfl rfl rfl (WC_klt _ _ _ _ _ _ _ _ _ _ _ _ _ _ _ _ _ _ _ _ _ _ _ _ _ _ _ _ _ _) (fun v Mx hx => by
            obtain ⟨fr', rs', rfl, rfl⟩ := hx
            exact ⟨rfl, WM s f n sn sc q k0 k1 (wF ((wk f n 0 (wk0 s)).1)) (wG ((wk f n 0 (wk0 s)).1)) (wH ((wk f n 0 (wk0 s)).1)) fr' rs' (nI (wA ((wk f n 0 (wk0 s)).1))) (wS ((wk f n 0 (wk0 s)).1)) tk du c2 wo cm g0 g1, rfl, CI_mk hs hn hq hw.1 hi0 hi1 zn zc za0 zb0 za1 zb1 hp0 hp1 hcc hc2 hk1 hk2 hrv hwo hcm hg0 hg1⟩)
        · exact SFR (C1 := WC rk s f n sn sc q i0 a0 b0 p0 k0 i1 a1 b1 p1 k1 (nI (wA ((wk f n 0 (wk0 s)).1))) (stA (wk f n 0 (wk0 s))) (stW (wk f n 0 (wk0 s))) (wF ((wk f n 0 (wk0 s)).1)) (wG ((wk f n 0 (wk0 s)).1)) (wH ((wk f n 0 (wk0 s)).1)) (wS ((wk f n 0 (wk0 s)).1)) dn dd db fi cc rv) (t_then_6 1 rk f n hn t s (ht.agr hs) y0 y1 y2 y3 y4 y5 hf (decide_eq_true hr)) (m_then_6 0 vl va vw vr vs vc q n f hn s t2 hs hf hr) rfl rfl rfl (WC_klt _ _ _ _ _ _ _ _ _ _ _ _ _ _ _ _ _ _ _ _ _ _ _ _ _ _ _ _ _ _) (fun v Mx hx => by
            obtain ⟨fr', rs', rfl, rfl⟩ := hx
            exact ⟨rfl, WM s f n sn sc q k0 k1 (wF ((wk f n 0 (wk0 s)).1)) (wG ((wk f n 0 (wk0 s)).1)) (wH ((wk f n 0 (wk0 s)).1)) fr' rs' (nI (wA ((wk f n 0 (wk0 s)).1))) (wS ((wk f n 0 (wk0 s)).1)) tk du c2 wo cm g0 g1, rfl, CI_mk hs hn hq hw.1 hi0 hi1 zn zc za0 zb0 za1 zb1 hp0 hp1 hcc hc2 hk1 hk2 hrv hwo hcm hg0 hg1⟩)
      · exact SFR (C1 := WC rk s f n sn sc q i0 a0 b0 p0 k0 i1 a1 b1 p1 k1 (nI (wA ((wk f n 0 (wk0 s)).1))) (stA (wk f n 0 (wk0 s))) (stW (wk f n 0 (wk0 s))) (wF ((wk f n 0 (wk0 s)).1)) (wG ((wk f n 0 (wk0 s)).1)) (wH ((wk f n 0 (wk0 s)).1)) (wS ((wk f n 0 (wk0 s)).1)) dn dd db fi cc rv) (t_then_n 1 rk f n hn t s (ht.agr hs) y0 y1 y2 y3 y4 y5 hf (decide_eq_false hr) xa (in_x hv L0 L6)) (m_then_n 0 vl va vw vr vs vc q n f hn s t2 hs hf hr xa hv) rfl rfl rfl (WC_klt _ _ _ _ _ _ _ _ _ _ _ _ _ _ _ _ _ _ _ _ _ _ _ _ _ _ _ _ _ _) (fun v Mx hx => by
          obtain ⟨fr', rs', rfl, rfl⟩ := hx
          exact ⟨rfl, WM s f n sn sc q k0 k1 (wF ((wk f n 0 (wk0 s)).1)) (wG ((wk f n 0 (wk0 s)).1)) (wH ((wk f n 0 (wk0 s)).1)) fr' rs' (nI (wA ((wk f n 0 (wk0 s)).1))) (wS ((wk f n 0 (wk0 s)).1)) tk du c2 wo cm g0 g1, rfl, CI_mk hs hn hq hw.1 hi0 hi1 zn zc za0 zb0 za1 zb1 hp0 hp1 hcc hc2 hk1 hk2 hrv hwo hcm hg0 hg1⟩)
    · exact SFF (C1 := WC rk s f n sn sc q i0 a0 b0 p0 k0 i1 a1 b1 p1 k1 0 (-6) (-6) 0 (-6) (-6) s dn dd db fi cc rv) (M1 := WM s f n sn sc q k0 k1 vl va vw vr vs vc t2 tk du c2 wo cm g0 g1) (t_then_f 1 rk f n hn t s (ht.agr hs) y0 y1 y2 y3 y4 y5 hf xa (in_x hv L0 L6)) (m_then_f 0 vl va vw vr vs vc q n f hn s t2 hs hf xa hv) rfl rfl rfl rfl (CI_mk hs hn hq hs hi0 hi1 zn zc za0 zb0 za1 zb1 hp0 hp1 hcc hc2 hk1 hk2 hrv hwo hcm hg0 hg1)
