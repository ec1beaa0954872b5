theorem inI_of {k b : Nat} {hi : Int32} (hb : hi = nI b) (h : k ≤ b) (hb2 : b < 2 ^ 31) : inI (nI k) 0 hi = true := by
  subst hb
  simp only [inI, Bool.and_eq_true, decide_eq_true_eq]
  exact ⟨nI_pos' (by omega), nI_le h hb2⟩

set_option maxHeartbeats 4000000 in
set_option maxRecDepth 20000 in
theorem S_chain (xa : Int32) : STEP YX6_chain YX7_chain [.ref 0, .int xa] [.ref 38, .int xa] := by
  intro C M hI
  obtain ⟨rk, s, f, n, sn, sc, q, i0, a0, b0, p0, k0, i1, a1, b1, p1, k1, y0, y1, y2, y3, y4, y5, t, dn, dd, fi, rv, vl, va, vw, vr, vs, vc, t2, tk, du, c2, wo, cm, g0, g1, rfl, rfl, hs, hn, hq, ht, hi0, hi1, zn, zc, za0, zb0, za1, zb1, hp0, hp1, hc2, hk1, hk2, hrv, hwo, hcm, hg0, hg1⟩ := hI
  cases hx : inI xa 0 5 with
  | false =>
    exact SFF (C1 := WC rk s f n sn sc q i0 a0 b0 p0 k0 i1 a1 b1 p1 k1 y0 y1 y2 y3 y4 y5 t dn dd fi rv) (M1 := WM s f n sn sc q k0 k1 vl va vw vr vs vc t2 tk du c2 wo cm g0 g1) (t_chain_unk 3 rk xa (in_x hx L0 L5)) (m_chain_unk 4 (sbu s) vl va vw vr vs vc q n xa hx) mC_0 (mC_0 (rk' := rk)) mM_38 (mM_38 (n' := n) (q' := q) (vl' := vl) (va' := va) (vw' := vw) (vr' := vr) (vs' := vs) (vc' := vc)) (CI_mk hs hn hq ht hi0 hi1 zn zc za0 zb0 za1 zb1 hp0 hp1 hc2 hk1 hk2 hrv hwo hcm hg0 hg1)
  | true =>
    obtain ⟨h, -, hh, rfl⟩ := in_nI hx (a := 0) (b := 5) rfl rfl (by decide) (by decide)
    have hl : h < 6 := by omega
    by_cases ha : 0 < she s h
    · exact SFF (C1 := WC rk s f n sn sc q i0 a0 b0 p0 k0 i1 a1 b1 p1 k1 y0 y1 y2 y3 y4 y5 t dn dd fi rv) (M1 := WM s f n sn sc q k0 k1 vl va vw vr vs vc t2 tk du c2 wo cm g0 g1) (t_chain_ok 3 rk s h hl (in_x hx L0 L5) (decide_eq_true ha)) (m_chain_ok 4 (sbu s) vl va vw vr vs vc q n s hs h hl hx ha) mC_0t4 (mC_0t4 (rk' := rk) (s' := s)) mM_38t39 (mM_38t39 (s' := s) (n' := n) (q' := q) (vl' := vl) (va' := va) (vw' := vw) (vr' := vr) (vs' := vs) (vc' := vc)) (CI_mk hs hn hq ht hi0 hi1 zn zc za0 zb0 za1 zb1 hp0 hp1 hc2 hk1 hk2 hrv hwo hcm hg0 hg1)
    · exact SFF (C1 := WC rk s f n sn sc q i0 a0 b0 p0 k0 i1 a1 b1 p1 k1 y0 y1 y2 y3 y4 y5 t dn dd fi rv) (M1 := WM s f n sn sc q k0 k1 vl va vw vr vs vc t2 tk du c2 wo cm g0 g1) (t_chain_state 3 rk s h hl (in_x hx L0 L5) (decide_eq_false ha)) (m_chain_state 4 (sbu s) vl va vw vr vs vc q n s hs h hl hx ha) mC_0t4 (mC_0t4 (rk' := rk) (s' := s)) mM_38t39 (mM_38t39 (s' := s) (n' := n) (q' := q) (vl' := vl) (va' := va) (vw' := vw) (vr' := vr) (vs' := vs) (vc' := vc)) (CI_mk hs hn hq ht hi0 hi1 zn zc za0 zb0 za1 zb1 hp0 hp1 hc2 hk1 hk2 hrv hwo hcm hg0 hg1)

set_option maxHeartbeats 4000000 in
set_option maxRecDepth 20000 in
theorem S_cover (xa xb xc : Int32) : STEP YX6_cover YX7_cover [.ref 0, .int xa, .int xb, .int xc, .null] [.ref 38, .int xa, .int xb, .int xc, .null, .null, .null] := by
  intro C M hI
  obtain ⟨rk, s, f, n, sn, sc, q, i0, a0, b0, p0, k0, i1, a1, b1, p1, k1, y0, y1, y2, y3, y4, y5, t, dn, dd, fi, rv, vl, va, vw, vr, vs, vc, t2, tk, du, c2, wo, cm, g0, g1, rfl, rfl, hs, hn, hq, ht, hi0, hi1, zn, zc, za0, zb0, za1, zb1, hp0, hp1, hc2, hk1, hk2, hrv, hwo, hcm, hg0, hg1⟩ := hI
  cases h1 : inI xa 0 5 with
  | false =>
    exact SFF (C1 := WC rk s f n sn sc q i0 a0 b0 p0 k0 i1 a1 b1 p1 k1 y0 y1 y2 y3 y4 y5 t dn dd fi rv) (M1 := WM s f n sn sc q k0 k1 vl va vw vr vs vc t2 tk du c2 wo cm g0 g1) (t_cov_u1 2 rk xa xb xc (in_x h1 L0 L5)) (m_cov_u1 3 (sbu s) vl va vw vr vs vc q n xa xb xc h1) mC_0 (mC_0 (rk' := rk)) mM_38 (mM_38 (n' := n) (q' := q) (vl' := vl) (va' := va) (vw' := vw) (vr' := vr) (vs' := vs) (vc' := vc)) (CI_mk hs hn hq ht hi0 hi1 zn zc za0 zb0 za1 zb1 hp0 hp1 hc2 hk1 hk2 hrv hwo hcm hg0 hg1)
  | true =>
    cases h2 : inI xb 0 5 with
    | false =>
      exact SFF (C1 := WC rk s f n sn sc q i0 a0 b0 p0 k0 i1 a1 b1 p1 k1 y0 y1 y2 y3 y4 y5 t dn dd fi rv) (M1 := WM s f n sn sc q k0 k1 vl va vw vr vs vc t2 tk du c2 wo cm g0 g1) (t_cov_u2 2 rk xa xb xc (in_x h1 L0 L5) (in_x h2 L0 L5)) (m_cov_u2 3 (sbu s) vl va vw vr vs vc q n xa xb xc h1 h2) mC_0 (mC_0 (rk' := rk)) mM_38 (mM_38 (n' := n) (q' := q) (vl' := vl) (va' := va) (vw' := vw) (vr' := vr) (vs' := vs) (vc' := vc)) (CI_mk hs hn hq ht hi0 hi1 zn zc za0 zb0 za1 zb1 hp0 hp1 hc2 hk1 hk2 hrv hwo hcm hg0 hg1)
    | true =>
      by_cases he : xa = xb
      · subst he
        exact SFF (C1 := WC rk s f n sn sc q i0 a0 b0 p0 k0 i1 a1 b1 p1 k1 y0 y1 y2 y3 y4 y5 t dn dd fi rv) (M1 := WM s f n sn sc q k0 k1 vl va vw vr vs vc t2 tk du c2 wo cm g0 g1) (t_cov_u3 2 rk xa xc (in_x h1 L0 L5)) (m_cov_u3 3 (sbu s) vl va vw vr vs vc q n xa xc h1) mC_0 (mC_0 (rk' := rk)) mM_38 (mM_38 (n' := n) (q' := q) (vl' := vl) (va' := va) (vw' := vw) (vr' := vr) (vs' := vs) (vc' := vc)) (CI_mk hs hn hq ht hi0 hi1 zn zc za0 zb0 za1 zb1 hp0 hp1 hc2 hk1 hk2 hrv hwo hcm hg0 hg1)
      · obtain ⟨h, -, hh, rfl⟩ := in_nI h1 (a := 0) (b := 5) rfl rfl (by decide) (by decide)
        have hl : h < 6 := by omega
        obtain ⟨g, -, gh, rfl⟩ := in_nI h2 (a := 0) (b := 5) rfl rfl (by decide) (by decide)
        have gl : g < 6 := by omega
        cases hv : inI xc 0 1 with
        | false =>
          exact SFF (C1 := WC rk s f n sn sc q i0 a0 b0 p0 k0 i1 a1 b1 p1 k1 y0 y1 y2 y3 y4 y5 t dn dd fi rv) (M1 := WM s f n sn sc q k0 k1 vl va vw vr vs vc t2 tk du c2 wo cm g0 g1) (t_cov_out 2 rk s h g hl gl he xc (in_x h1 L0 L5) (in_x h2 L0 L5) (in_x hv L0 L1)) (m_cov_out 3 (sbu s) vl va vw vr vs vc q n s hs h g hl gl he h1 h2 xc hv) mC_0t4 (mC_0t4 (rk' := rk) (s' := s)) mM_38t39 (mM_38t39 (s' := s) (n' := n) (q' := q) (vl' := vl) (va' := va) (vw' := vw) (vr' := vr) (vs' := vs) (vc' := vc)) (CI_mk hs hn hq ht hi0 hi1 zn zc za0 zb0 za1 zb1 hp0 hp1 hc2 hk1 hk2 hrv hwo hcm hg0 hg1)
        | true =>
          by_cases ha : 0 < she s h
          · by_cases hb : 0 < she s g
            · by_cases hz : fcB s h g = -6
              · exact SFF (C1 := WC rk s f n sn sc q i0 a0 b0 p0 k0 i1 a1 b1 p1 k1 y0 y1 y2 y3 y4 y5 t dn dd fi rv) (M1 := WM s f n sn sc q k0 k1 vl va vw vr vs vc t2 tk du c2 wo cm g0 g1) (t_cov_none 2 rk s h g hl gl he xc (in_x h1 L0 L5) (in_x h2 L0 L5) (in_x hv L0 L1) (decide_eq_true ha) (decide_eq_true hb) hz) (m_cov_none 3 (sbu s) vl va vw vr vs vc q n s hs h g hl gl he h1 h2 xc hv ((she_0 hs hl).mp ha) ((she_0 hs gl).mp hb) hz) mC_0t4 (mC_0t4 (rk' := rk) (s' := s)) mM_38t39 (mM_38t39 (s' := s) (n' := n) (q' := q) (vl' := vl) (va' := va) (vw' := vw) (vr' := vr) (vs' := vs) (vc' := vc)) (CI_mk hs hn hq ht hi0 hi1 zn zc za0 zb0 za1 zb1 hp0 hp1 hc2 hk1 hk2 hrv hwo hcm hg0 hg1)
              · rcases in01 hv with rfl | rfl
                · exact SFF (C1 := WC rk s f n sn sc q i0 a0 b0 p0 k0 i1 a1 b1 p1 k1 y0 y1 y2 y3 y4 y5 t dn dd fi rv) (M1 := WM s f n sn sc q k0 k1 vl va vw vr vs vc t2 tk du c2 wo cm g0 g1) (t_cov_0 2 rk s h g hl gl he (in_x h1 L0 L5) (in_x h2 L0 L5) (in_x hv L0 L1) (decide_eq_true ha) (decide_eq_true hb) hz) (m_cov_0 3 (sbu s) vl va vw vr vs vc q n s hs h g hl gl he h1 h2 ((she_0 hs hl).mp ha) ((she_0 hs gl).mp hb) hz) mC_0t4 (mC_0t4 (rk' := rk) (s' := s)) mM_38t39 (mM_38t39 (s' := s) (n' := n) (q' := q) (vl' := vl) (va' := va) (vw' := vw) (vr' := vr) (vs' := vs) (vc' := vc)) (CI_mk hs hn hq ht hi0 hi1 zn zc za0 zb0 za1 zb1 hp0 hp1 hc2 hk1 hk2 hrv hwo hcm hg0 hg1)
                · exact SFF (C1 := WC rk s f n sn sc q i0 a0 b0 p0 k0 i1 a1 b1 p1 k1 y0 y1 y2 y3 y4 y5 t dn dd fi rv) (M1 := WM s f n sn sc q k0 k1 vl va vw vr vs vc t2 tk du c2 wo cm g0 g1) (t_cov_1 2 rk s h g hl gl he (in_x h1 L0 L5) (in_x h2 L0 L5) (in_x hv L0 L1) (decide_eq_true ha) (decide_eq_true hb) hz) (m_cov_1 3 (sbu s) vl va vw vr vs vc q n s hs h g hl gl he h1 h2 ((she_0 hs hl).mp ha) ((she_0 hs gl).mp hb) hz) mC_0t4 (mC_0t4 (rk' := rk) (s' := s)) mM_38t39 (mM_38t39 (s' := s) (n' := n) (q' := q) (vl' := vl) (va' := va) (vw' := vw) (vr' := vr) (vs' := vs) (vc' := vc)) (CI_mk hs hn hq ht hi0 hi1 zn zc za0 zb0 za1 zb1 hp0 hp1 hc2 hk1 hk2 hrv hwo hcm hg0 hg1)
            · exact SFF (C1 := WC rk s f n sn sc q i0 a0 b0 p0 k0 i1 a1 b1 p1 k1 y0 y1 y2 y3 y4 y5 t dn dd fi rv) (M1 := WM s f n sn sc q k0 k1 vl va vw vr vs vc t2 tk du c2 wo cm g0 g1) (t_cov_s2 2 rk s h g hl gl he xc (in_x h1 L0 L5) (in_x h2 L0 L5) (in_x hv L0 L1) (decide_eq_true ha) (decide_eq_false hb)) (m_cov_s2 3 (sbu s) vl va vw vr vs vc q n s hs h g hl gl he h1 h2 xc hv ((she_0 hs hl).mp ha) (Decidable.not_not.mp (fun e => hb ((she_0 hs gl).mpr e)))) mC_0t4 (mC_0t4 (rk' := rk) (s' := s)) mM_38t39 (mM_38t39 (s' := s) (n' := n) (q' := q) (vl' := vl) (va' := va) (vw' := vw) (vr' := vr) (vs' := vs) (vc' := vc)) (CI_mk hs hn hq ht hi0 hi1 zn zc za0 zb0 za1 zb1 hp0 hp1 hc2 hk1 hk2 hrv hwo hcm hg0 hg1)
          · exact SFF (C1 := WC rk s f n sn sc q i0 a0 b0 p0 k0 i1 a1 b1 p1 k1 y0 y1 y2 y3 y4 y5 t dn dd fi rv) (M1 := WM s f n sn sc q k0 k1 vl va vw vr vs vc t2 tk du c2 wo cm g0 g1) (t_cov_s1 2 rk s h g hl gl he xc (in_x h1 L0 L5) (in_x h2 L0 L5) (in_x hv L0 L1) (decide_eq_false ha)) (m_cov_s1 3 (sbu s) vl va vw vr vs vc q n s hs h g hl gl he h1 h2 xc hv (Decidable.not_not.mp (fun e => ha ((she_0 hs hl).mpr e)))) mC_0t4 (mC_0t4 (rk' := rk) (s' := s)) mM_38t39 (mM_38t39 (s' := s) (n' := n) (q' := q) (vl' := vl) (va' := va) (vw' := vw) (vr' := vr) (vs' := vs) (vc' := vc)) (CI_mk hs hn hq ht hi0 hi1 zn zc za0 zb0 za1 zb1 hp0 hp1 hc2 hk1 hk2 hrv hwo hcm hg0 hg1)

set_option maxHeartbeats 4000000 in
set_option maxRecDepth 20000 in
theorem S_seen (xa xb : Int32) : STEP YX6_seen YX7_seen [.ref 0, .int xa, .int xb] [.ref 38, .int xa, .int xb] := by
  intro C M hI
  obtain ⟨rk, s, f, n, sn, sc, q, i0, a0, b0, p0, k0, i1, a1, b1, p1, k1, y0, y1, y2, y3, y4, y5, t, dn, dd, fi, rv, vl, va, vw, vr, vs, vc, t2, tk, du, c2, wo, cm, g0, g1, rfl, rfl, hs, hn, hq, ht, hi0, hi1, zn, zc, za0, zb0, za1, zb1, hp0, hp1, hc2, hk1, hk2, hrv, hwo, hcm, hg0, hg1⟩ := hI
  cases h1 : inI xa 0 20 with
  | false =>
    exact SFF (C1 := WC rk s f n sn sc q i0 a0 b0 p0 k0 i1 a1 b1 p1 k1 y0 y1 y2 y3 y4 y5 t dn dd fi rv) (M1 := WM s f n sn sc q k0 k1 vl va vw vr vs vc t2 tk du c2 wo cm g0 g1) (t_seen_o1 6 rk xa xb (in_x h1 L0 L20)) (m_seen_o1 6 (sbu s) vl va vw vr vs vc q n xa xb h1) mC_0 (mC_0 (rk' := rk)) mM_38 (mM_38 (n' := n) (q' := q) (vl' := vl) (va' := va) (vw' := vw) (vr' := vr) (vs' := vs) (vc' := vc)) (CI_mk hs hn hq ht hi0 hi1 zn zc za0 zb0 za1 zb1 hp0 hp1 hc2 hk1 hk2 hrv hwo hcm hg0 hg1)
  | true =>
    cases h2 : inI xb 0 6 with
    | false =>
      exact SFF (C1 := WC rk s f n sn sc q i0 a0 b0 p0 k0 i1 a1 b1 p1 k1 y0 y1 y2 y3 y4 y5 t dn dd fi rv) (M1 := WM s f n sn sc q k0 k1 vl va vw vr vs vc t2 tk du c2 wo cm g0 g1) (t_seen_o2 6 rk xa xb (in_x h1 L0 L20) (in_x h2 L0 L6)) (m_seen_o2 6 (sbu s) vl va vw vr vs vc q n xa xb h1 h2) mC_0 (mC_0 (rk' := rk)) mM_38 (mM_38 (n' := n) (q' := q) (vl' := vl) (va' := va) (vw' := vw) (vr' := vr) (vs' := vs) (vc' := vc)) (CI_mk hs hn hq ht hi0 hi1 zn zc za0 zb0 za1 zb1 hp0 hp1 hc2 hk1 hk2 hrv hwo hcm hg0 hg1)
    | true =>
      by_cases h8 : q < 8
      · exact SFF (C1 := WC rk s f n (upd sn q xa) (upd sc q xb) (q + 1) i0 a0 b0 p0 k0 i1 a1 b1 p1 k1 y0 y1 y2 y3 y4 y5 t dn dd fi rv) (M1 := WM s f n (upd sn q xa) (upd sc q xb) (q + 1) k0 k1 vl va vw vr vs vc t2 tk du c2 wo cm g0 g1) (t_seen_ok 6 rk sn sc q h8 xa xb (in_x h1 L0 L20) (in_x h2 L0 L6)) (m_seen_ok 6 (sbu s) vl va vw vr vs vc q n sn sc h8 xa xb h1 h2) mC_0_7t9 (mC_0_7t9 (rk' := rk) (sn' := upd sn q xa) (sc' := upd sc q xb) (q' := q + 1)) mM_38_41 (mM_38_41 (n' := n) (sn' := upd sn q xa) (sc' := upd sc q xb) (q' := q + 1) (vl' := vl) (va' := va) (vw' := vw) (vr' := vr) (vs' := vs) (vc' := vc)) (CI_mk hs hn (by omega) ht hi0 hi1 (zz_upd zn h8) (zz_upd zc h8) za0 zb0 za1 zb1 hp0 hp1 hc2 hk1 hk2 hrv hwo hcm hg0 hg1)
      · obtain rfl : q = 8 := by omega
        exact SFF (C1 := WC rk s f n sn sc 8 i0 a0 b0 p0 k0 i1 a1 b1 p1 k1 y0 y1 y2 y3 y4 y5 t dn dd fi rv) (M1 := WM s f n sn sc 8 k0 k1 vl va vw vr vs vc t2 tk du c2 wo cm g0 g1) (t_seen_full 6 rk sn sc xa xb (in_x h1 L0 L20) (in_x h2 L0 L6)) (m_seen_full 6 (sbu s) vl va vw vr vs vc n xa xb h1 h2) mC_0_7t9 (mC_0_7t9 (rk' := rk) (sn' := sn) (sc' := sc) (q' := 8)) mM_38 (mM_38 (n' := n) (q' := 8) (vl' := vl) (va' := va) (vw' := vw) (vr' := vr) (vs' := vs) (vc' := vc)) (CI_mk hs hn hq ht hi0 hi1 zn zc za0 zb0 za1 zb1 hp0 hp1 hc2 hk1 hk2 hrv hwo hcm hg0 hg1)

set_option maxHeartbeats 4000000 in
set_option maxRecDepth 20000 in
theorem S_forget  : STEP YX6_forget YX7_forget [.ref 0, .null] [.ref 38, .null] := by
  intro C M hI
  obtain ⟨rk, s, f, n, sn, sc, q, i0, a0, b0, p0, k0, i1, a1, b1, p1, k1, y0, y1, y2, y3, y4, y5, t, dn, dd, fi, rv, vl, va, vw, vr, vs, vc, t2, tk, du, c2, wo, cm, g0, g1, rfl, rfl, hs, hn, hq, ht, hi0, hi1, zn, zc, za0, zb0, za1, zb1, hp0, hp1, hc2, hk1, hk2, hrv, hwo, hcm, hg0, hg1⟩ := hI
  exact SFF (C1 := WC rk s f n sn sc 0 i0 a0 b0 p0 k0 i1 a1 b1 p1 k1 y0 y1 y2 y3 y4 y5 t dn dd fi rv) (M1 := WM s f n sn sc 0 k0 k1 vl va vw vr vs vc t2 tk du c2 wo cm g0 g1) (t_forget 7 rk sn sc q) (m_forget 7 (sbu s) vl va vw vr vs vc q n) mC_0_7t9 (mC_0_7t9 (rk' := rk) (sn' := sn) (sc' := sc) (q' := 0)) mM_38 (mM_38 (n' := n) (q' := 0) (vl' := vl) (va' := va) (vw' := vw) (vr' := vr) (vs' := vs) (vc' := vc)) (CI_mk hs hn (by omega) ht hi0 hi1 zn zc za0 zb0 za1 zb1 hp0 hp1 hc2 hk1 hk2 hrv hwo hcm hg0 hg1)

set_option maxHeartbeats 4000000 in
set_option maxRecDepth 20000 in
theorem S_image (xa : Int32) : STEP YX6_image YX7_image [.ref 0, .int xa, .null] [.ref 38, .int xa, .null, .null] := by
  intro C M hI
  obtain ⟨rk, s, f, n, sn, sc, q, i0, a0, b0, p0, k0, i1, a1, b1, p1, k1, y0, y1, y2, y3, y4, y5, t, dn, dd, fi, rv, vl, va, vw, vr, vs, vc, t2, tk, du, c2, wo, cm, g0, g1, rfl, rfl, hs, hn, hq, ht, hi0, hi1, zn, zc, za0, zb0, za1, zb1, hp0, hp1, hc2, hk1, hk2, hrv, hwo, hcm, hg0, hg1⟩ := hI
  cases hv : inI xa 0 1 with
  | false =>
    exact SFF (C1 := WC rk s f n sn sc q i0 a0 b0 p0 k0 i1 a1 b1 p1 k1 y0 y1 y2 y3 y4 y5 t dn dd fi rv) (M1 := WM s f n sn sc q k0 k1 vl va vw vr vs vc t2 tk du c2 wo cm g0 g1) (t_img_out 6 rk xa (in_x hv L0 L1)) (m_img_out 6 (sbu s) vl va vw vr vs vc q n xa hv) mC_0 (mC_0 (rk' := rk)) mM_38 (mM_38 (n' := n) (q' := q) (vl' := vl) (va' := va) (vw' := vw) (vr' := vr) (vs' := vs) (vc' := vc)) (CI_mk hs hn hq ht hi0 hi1 zn zc za0 zb0 za1 zb1 hp0 hp1 hc2 hk1 hk2 hrv hwo hcm hg0 hg1)
  | true =>
    rcases in01 hv with rfl | rfl
    · exact SFF (C1 := WC rk s f n sn sc q s sn sc q true i1 a1 b1 p1 k1 y0 y1 y2 y3 y4 y5 t dn dd fi rv) (M1 := WM s f n sn sc q true k1 vl va vw vr vs vc t2 tk du c2 wo cm (slF s sn sc q g0) g1) (t_img_0 6 rk s i0 sn sc a0 b0 q p0 k0 (hi0.agr hs) (zz_eq za0 zn) (zz_eq zb0 zc)) (m_img_0 6 vl va vw vr vs vc q n s sn sc g0 g1 k0 k1) mC_0t4_7t17 (mC_0t4_7t17 (rk' := rk) (s' := s) (sn' := sn) (sc' := sc) (q' := q) (i0' := s) (a0' := sn) (b0' := sc) (p0' := q) (k0' := true)) mM_38t39_41_48t49 (mM_38t39_41_48t49 (s' := s) (n' := n) (sn' := sn) (sc' := sc) (q' := q) (k0' := true) (k1' := k1) (vl' := vl) (va' := va) (vw' := vw) (vr' := vr) (vs' := vs) (vc' := vc) (g0' := slF s sn sc q g0) (g1' := g1)) (CI_mk hs hn hq ht hs hi1 zn zc zn zc za1 zb1 hq hp1 hc2 hk1 hk2 hrv hwo hcm (fun _ => ⟨g0, rfl⟩) hg1)
    · exact SFF (C1 := WC rk s f n sn sc q i0 a0 b0 p0 k0 s sn sc q true y0 y1 y2 y3 y4 y5 t dn dd fi rv) (M1 := WM s f n sn sc q k0 true vl va vw vr vs vc t2 tk du c2 wo cm g0 (slF s sn sc q g1)) (t_img_1 6 rk s i1 sn sc a1 b1 q p1 k1 (hi1.agr hs) (zz_eq za1 zn) (zz_eq zb1 zc)) (m_img_1 6 vl va vw vr vs vc q n s sn sc g0 g1 k0 k1) mC_0t4_7t9_18t25 (mC_0t4_7t9_18t25 (rk' := rk) (s' := s) (sn' := sn) (sc' := sc) (q' := q) (i1' := s) (a1' := sn) (b1' := sc) (p1' := q) (k1' := true)) mM_38t39_41_48t49 (mM_38t39_41_48t49 (s' := s) (n' := n) (sn' := sn) (sc' := sc) (q' := q) (k0' := k0) (k1' := true) (vl' := vl) (va' := va) (vw' := vw) (vr' := vr) (vs' := vs) (vc' := vc) (g0' := g0) (g1' := slF s sn sc q g1)) (CI_mk hs hn hq ht hi0 hs zn zc za0 zb0 zn zc hp0 hq hc2 hk1 hk2 hrv hwo hcm hg0 (fun _ => ⟨g1, rfl⟩))

set_option maxHeartbeats 4000000 in
set_option maxRecDepth 20000 in
theorem S_restore (xa : Int32) : STEP YX6_restore YX7_restore [.ref 0, .int xa, .null] [.ref 38, .int xa, .null, .null] := by
  intro C M hI
  obtain ⟨rk, s, f, n, sn, sc, q, i0, a0, b0, p0, k0, i1, a1, b1, p1, k1, y0, y1, y2, y3, y4, y5, t, dn, dd, fi, rv, vl, va, vw, vr, vs, vc, t2, tk, du, c2, wo, cm, g0, g1, rfl, rfl, hs, hn, hq, ht, hi0, hi1, zn, zc, za0, zb0, za1, zb1, hp0, hp1, hc2, hk1, hk2, hrv, hwo, hcm, hg0, hg1⟩ := hI
  cases hv : inI xa 0 1 with
  | false =>
    exact SFF (C1 := WC rk s f n sn sc q i0 a0 b0 p0 k0 i1 a1 b1 p1 k1 y0 y1 y2 y3 y4 y5 t dn dd fi rv) (M1 := WM s f n sn sc q k0 k1 vl va vw vr vs vc t2 tk du c2 wo cm g0 g1) (t_res_out 6 rk xa (in_x hv L0 L1)) (m_res_out 6 (sbu s) vl va vw vr vs vc q n xa hv) mC_0 (mC_0 (rk' := rk)) mM_38 (mM_38 (n' := n) (q' := q) (vl' := vl) (va' := va) (vw' := vw) (vr' := vr) (vs' := vs) (vc' := vc)) (CI_mk hs hn hq ht hi0 hi1 zn zc za0 zb0 za1 zb1 hp0 hp1 hc2 hk1 hk2 hrv hwo hcm hg0 hg1)
  | true =>
    rcases in01 hv with rfl | rfl
    · cases k0 with
      | false =>
        exact SFF (C1 := WC rk s f n sn sc q i0 a0 b0 p0 false i1 a1 b1 p1 k1 y0 y1 y2 y3 y4 y5 t dn dd fi rv) (M1 := WM s f n sn sc q false k1 vl va vw vr vs vc t2 tk du c2 wo cm g0 g1) (t_res_st_0 6 rk) (m_res_st_0 6 (sbu s) vl va vw vr vs vc q n k1) mC_0_10 (mC_0_10 (rk' := rk) (k0' := false)) mM_38_49 (mM_38_49 (n' := n) (q' := q) (k0' := false) (k1' := k1) (vl' := vl) (va' := va) (vw' := vw) (vr' := vr) (vs' := vs) (vc' := vc)) (CI_mk hs hn hq ht hi0 hi1 zn zc za0 zb0 za1 zb1 hp0 hp1 hc2 hk1 hk2 hrv hwo hcm hg0 hg1)
      | true =>
        obtain ⟨g, rfl⟩ := hg0 rfl
        exact SFF (C1 := WC rk i0 f n a0 b0 p0 i0 a0 b0 p0 true i1 a1 b1 p1 k1 y0 y1 y2 y3 y4 y5 t dn dd fi rv) (M1 := WM i0 f n a0 b0 p0 true k1 vl va vw vr vs vc t2 tk du c2 wo cm (slF i0 a0 b0 p0 g) g1) (t_res_0 6 rk s i0 sn sc a0 b0 q p0 (hs.agr hi0) (zz_eq zn za0) (zz_eq zc zb0)) (m_res_0 6 (sbu s) vl va vw vr vs vc q n s i0 sn sc a0 b0 g g1 p0 k1) mC_0t4_7t17 (mC_0t4_7t17 (rk' := rk) (s' := i0) (sn' := a0) (sc' := b0) (q' := p0) (i0' := i0) (a0' := a0) (b0' := b0) (p0' := p0) (k0' := true)) mM_38t39_41_48t49 (mM_38t39_41_48t49 (s' := i0) (n' := n) (sn' := a0) (sc' := b0) (q' := p0) (k0' := true) (k1' := k1) (vl' := vl) (va' := va) (vw' := vw) (vr' := vr) (vs' := vs) (vc' := vc) (g0' := slF i0 a0 b0 p0 g) (g1' := g1)) (CI_mk hi0 hn hp0 ht hi0 hi1 za0 zb0 za0 zb0 za1 zb1 hp0 hp1 hc2 hk1 hk2 hrv hwo hcm (fun _ => ⟨g, rfl⟩) hg1)
    · cases k1 with
      | false =>
        exact SFF (C1 := WC rk s f n sn sc q i0 a0 b0 p0 k0 i1 a1 b1 p1 false y0 y1 y2 y3 y4 y5 t dn dd fi rv) (M1 := WM s f n sn sc q k0 false vl va vw vr vs vc t2 tk du c2 wo cm g0 g1) (t_res_st_1 6 rk) (m_res_st_1 6 (sbu s) vl va vw vr vs vc q n k0) mC_0_18 (mC_0_18 (rk' := rk) (k1' := false)) mM_38_49 (mM_38_49 (n' := n) (q' := q) (k0' := k0) (k1' := false) (vl' := vl) (va' := va) (vw' := vw) (vr' := vr) (vs' := vs) (vc' := vc)) (CI_mk hs hn hq ht hi0 hi1 zn zc za0 zb0 za1 zb1 hp0 hp1 hc2 hk1 hk2 hrv hwo hcm hg0 hg1)
      | true =>
        obtain ⟨g, rfl⟩ := hg1 rfl
        exact SFF (C1 := WC rk i1 f n a1 b1 p1 i0 a0 b0 p0 k0 i1 a1 b1 p1 true y0 y1 y2 y3 y4 y5 t dn dd fi rv) (M1 := WM i1 f n a1 b1 p1 k0 true vl va vw vr vs vc t2 tk du c2 wo cm g0 (slF i1 a1 b1 p1 g)) (t_res_1 6 rk s i1 sn sc a1 b1 q p1 (hs.agr hi1) (zz_eq zn za1) (zz_eq zc zb1)) (m_res_1 6 (sbu s) vl va vw vr vs vc q n s i1 sn sc a1 b1 g0 g p1 k0) mC_0t4_7t9_18t25 (mC_0t4_7t9_18t25 (rk' := rk) (s' := i1) (sn' := a1) (sc' := b1) (q' := p1) (i1' := i1) (a1' := a1) (b1' := b1) (p1' := p1) (k1' := true)) mM_38t39_41_48t49 (mM_38t39_41_48t49 (s' := i1) (n' := n) (sn' := a1) (sc' := b1) (q' := p1) (k0' := k0) (k1' := true) (vl' := vl) (va' := va) (vw' := vw) (vr' := vr) (vs' := vs) (vc' := vc) (g0' := g0) (g1' := slF i1 a1 b1 p1 g)) (CI_mk hi1 hn hp1 ht hi0 hi1 za1 zb1 za0 zb0 za1 zb1 hp0 hp1 hc2 hk1 hk2 hrv hwo hcm hg0 (fun _ => ⟨g, rfl⟩))

set_option maxHeartbeats 4000000 in
set_option maxRecDepth 20000 in
theorem S_told (xa : Int32) : STEP YX6_told YX7_told [.ref 0, .int xa] [.ref 38, .int xa, .null] := by
  intro C M hI
  obtain ⟨rk, s, f, n, sn, sc, q, i0, a0, b0, p0, k0, i1, a1, b1, p1, k1, y0, y1, y2, y3, y4, y5, t, dn, dd, fi, rv, vl, va, vw, vr, vs, vc, t2, tk, du, c2, wo, cm, g0, g1, rfl, rfl, hs, hn, hq, ht, hi0, hi1, zn, zc, za0, zb0, za1, zb1, hp0, hp1, hc2, hk1, hk2, hrv, hwo, hcm, hg0, hg1⟩ := hI
  by_cases h10 : 10 ≤ xa
  · cases hv : inI (rmI xa 10) 0 5 with
    | false =>
      exact SFF (C1 := WC rk s f n sn sc q i0 a0 b0 p0 k0 i1 a1 b1 p1 k1 y0 y1 y2 y3 y4 y5 t dn dd fi rv) (M1 := WM s f n sn sc q k0 k1 vl va vw vr vs vc t2 tk du c2 wo cm g0 g1) (t_told_oB 4 rk xa h10 (in_x hv L0 L5)) (m_told_oB 5 (sbu s) vl va vw vr vs vc q n xa h10 hv) mC_0 (mC_0 (rk' := rk)) mM_38 (mM_38 (n' := n) (q' := q) (vl' := vl) (va' := va) (vw' := vw) (vr' := vr) (vs' := vs) (vc' := vc)) (CI_mk hs hn hq ht hi0 hi1 zn zc za0 zb0 za1 zb1 hp0 hp1 hc2 hk1 hk2 hrv hwo hcm hg0 hg1)
    | true =>
      have hn0 : ¬ xa < 0 := Int32.not_lt.mpr (Int32.le_trans (by decide) h10)
      obtain ⟨k, hk, rfl⟩ := nI_of hn0
      have hk10 : 10 ≤ k := (nI_leI (a := 10) (by decide) hk).mp h10
      have e1 : nI k / 10 = nI (k / 10) := nI_d (d := 10) hk (by decide) (by decide)
      have e2 : rmI (nI k) 10 = nI (k % 10) := nI_r (d := 10) hk (by decide) (by decide)
      have hv2 := hv
      rw [e2] at hv2
      obtain ⟨j, -, hj, ej⟩ := in_nI hv2 (a := 0) (b := 5) rfl rfl (by decide) (by decide)
      have hkj : k % 10 = j := nI_inj (by omega) (by omega) ej
      by_cases h40 : k < 40
      · obtain ⟨h, hh, hk⟩ : ∃ h, h < 6 ∧ (k = 10 + h ∨ k = 20 + h ∨ k = 30 + h) := ⟨k % 10, by omega, by omega⟩
        have hvh : inI (nI h) 0 5 = true := inI_of (b := 5) rfl (by omega) (by decide)
        rcases hk with rfl | rfl | rfl
        · exact SFF (C1 := WC rk s f n sn sc q i0 a0 b0 p0 k0 i1 a1 b1 p1 k1 y0 y1 y2 y3 y4 y5 t dn dd fi rv) (M1 := WM s f n sn sc q k0 k1 vl va vw vr vs vc t2 tk du c2 wo cm g0 g1) (t_told_h1 4 rk s h hh (in_x hvh L0 L5) h10) (m_told_h1 5 vl va vw vr vs vc q n s h hh hvh) mC_0t4 (mC_0t4 (rk' := rk) (s' := s)) mM_38t39 (mM_38t39 (s' := s) (n' := n) (q' := q) (vl' := vl) (va' := va) (vw' := vw) (vr' := vr) (vs' := vs) (vc' := vc)) (CI_mk hs hn hq ht hi0 hi1 zn zc za0 zb0 za1 zb1 hp0 hp1 hc2 hk1 hk2 hrv hwo hcm hg0 hg1)
        · exact SFF (C1 := WC rk s f n sn sc q i0 a0 b0 p0 k0 i1 a1 b1 p1 k1 y0 y1 y2 y3 y4 y5 t dn dd fi rv) (M1 := WM s f n sn sc q k0 k1 vl va vw vr vs vc t2 tk du c2 wo cm g0 g1) (t_told_h2 4 rk s h hh (in_x hvh L0 L5) h10) (m_told_h2 5 vl va vw vr vs vc q n s h hh hvh) mC_0t4 (mC_0t4 (rk' := rk) (s' := s)) mM_38t39 (mM_38t39 (s' := s) (n' := n) (q' := q) (vl' := vl) (va' := va) (vw' := vw) (vr' := vr) (vs' := vs) (vc' := vc)) (CI_mk hs hn hq ht hi0 hi1 zn zc za0 zb0 za1 zb1 hp0 hp1 hc2 hk1 hk2 hrv hwo hcm hg0 hg1)
        · exact SFF (C1 := WC rk s f n sn sc q i0 a0 b0 p0 k0 i1 a1 b1 p1 k1 y0 y1 y2 y3 y4 y5 t dn dd fi rv) (M1 := WM s f n sn sc q k0 k1 vl va vw vr vs vc t2 tk du c2 wo cm g0 g1) (t_told_h3 4 rk s h hh (in_x hvh L0 L5) h10) (m_told_h3 5 vl va vw vr vs vc q n s h hh hvh) mC_0t4 (mC_0t4 (rk' := rk) (s' := s)) mM_38t39 (mM_38t39 (s' := s) (n' := n) (q' := q) (vl' := vl) (va' := va) (vw' := vw) (vr' := vr) (vs' := vs) (vc' := vc)) (CI_mk hs hn hq ht hi0 hi1 zn zc za0 zb0 za1 zb1 hp0 hp1 hc2 hk1 hk2 hrv hwo hcm hg0 hg1)
      · exact SFF (C1 := WC rk s f n sn sc q i0 a0 b0 p0 k0 i1 a1 b1 p1 k1 y0 y1 y2 y3 y4 y5 t dn dd fi rv) (M1 := WM s f n sn sc q k0 k1 vl va vw vr vs vc t2 tk du c2 wo cm g0 g1) (t_told_oC 4 rk (nI k) h10 (in_x hv L0 L5) (Or.inr (by rw [e1, nI_toInt (by omega)]; omega))) (m_told_oC 5 (sbu s) vl va vw vr vs vc q n (nI k) h10 (nI_lt (a := 39) (by omega) hk)) mC_0 (mC_0 (rk' := rk)) mM_38 (mM_38 (n' := n) (q' := q) (vl' := vl) (va' := va) (vw' := vw) (vr' := vr) (vs' := vs) (vc' := vc)) (CI_mk hs hn hq ht hi0 hi1 zn zc za0 zb0 za1 zb1 hp0 hp1 hc2 hk1 hk2 hrv hwo hcm hg0 hg1)
  · by_cases h0 : xa < 0
    · exact SFF (C1 := WC rk s f n sn sc q i0 a0 b0 p0 k0 i1 a1 b1 p1 k1 y0 y1 y2 y3 y4 y5 t dn dd fi rv) (M1 := WM s f n sn sc q k0 k1 vl va vw vr vs vc t2 tk du c2 wo cm g0 g1) (t_told_oA 7 rk _ h10 (Or.inl (Int32.lt_iff_toInt_lt.mp h0))) (m_told_oA 5 (sbu s) vl va vw vr vs vc q n _ h10 (Or.inl (Int32.lt_iff_toInt_lt.mp h0))) mC_0 (mC_0 (rk' := rk)) mM_38 (mM_38 (n' := n) (q' := q) (vl' := vl) (va' := va) (vw' := vw) (vr' := vr) (vs' := vs) (vc' := vc)) (CI_mk hs hn hq ht hi0 hi1 zn zc za0 zb0 za1 zb1 hp0 hp1 hc2 hk1 hk2 hrv hwo hcm hg0 hg1)
    · obtain ⟨k, hk, rfl⟩ := nI_of h0
      have hk10 : k < 10 := Nat.not_le.mp (fun e => h10 (nI_le (a := 10) e hk))
      by_cases h6 : k ≤ 6
      · have hv : inI (nI k) 0 6 = true := inI_of (b := 6) rfl h6 (by decide)
        generalize nI k = x at *
        rcases in06 hv with rfl | rfl | rfl | rfl | rfl | rfl | rfl
        · exact SFF (C1 := WC rk s f n sn sc q i0 a0 b0 p0 k0 i1 a1 b1 p1 k1 y0 y1 y2 y3 y4 y5 t dn dd fi rv) (M1 := WM s f n sn sc q k0 k1 vl va vw vr vs vc t2 tk du c2 wo cm g0 g1) (t_told_0 7 rk f sn sc n q s) (m_told_0 5 vl va vw vr vs vc q n s) mC_0t9 (mC_0t9 (rk' := rk) (s' := s) (f' := f) (n' := n) (sn' := sn) (sc' := sc) (q' := q)) mM_38t39 (mM_38t39 (s' := s) (n' := n) (q' := q) (vl' := vl) (va' := va) (vw' := vw) (vr' := vr) (vs' := vs) (vc' := vc)) (CI_mk hs hn hq ht hi0 hi1 zn zc za0 zb0 za1 zb1 hp0 hp1 hc2 hk1 hk2 hrv hwo hcm hg0 hg1)
        · exact SFF (C1 := WC rk s f n sn sc q i0 a0 b0 p0 k0 i1 a1 b1 p1 k1 y0 y1 y2 y3 y4 y5 t dn dd fi rv) (M1 := WM s f n sn sc q k0 k1 vl va vw vr vs vc t2 tk du c2 wo cm g0 g1) (t_told_1 7 rk f sn sc n q s) (m_told_1 5 vl va vw vr vs vc q n s) mC_0t9 (mC_0t9 (rk' := rk) (s' := s) (f' := f) (n' := n) (sn' := sn) (sc' := sc) (q' := q)) mM_38t39 (mM_38t39 (s' := s) (n' := n) (q' := q) (vl' := vl) (va' := va) (vw' := vw) (vr' := vr) (vs' := vs) (vc' := vc)) (CI_mk hs hn hq ht hi0 hi1 zn zc za0 zb0 za1 zb1 hp0 hp1 hc2 hk1 hk2 hrv hwo hcm hg0 hg1)
        · exact SFF (C1 := WC rk s f n sn sc q i0 a0 b0 p0 k0 i1 a1 b1 p1 k1 y0 y1 y2 y3 y4 y5 t dn dd fi rv) (M1 := WM s f n sn sc q k0 k1 vl va vw vr vs vc t2 tk du c2 wo cm g0 g1) (t_told_2 7 rk f sn sc n q s) (m_told_2 5 vl va vw vr vs vc q n s) mC_0t9 (mC_0t9 (rk' := rk) (s' := s) (f' := f) (n' := n) (sn' := sn) (sc' := sc) (q' := q)) mM_38t39 (mM_38t39 (s' := s) (n' := n) (q' := q) (vl' := vl) (va' := va) (vw' := vw) (vr' := vr) (vs' := vs) (vc' := vc)) (CI_mk hs hn hq ht hi0 hi1 zn zc za0 zb0 za1 zb1 hp0 hp1 hc2 hk1 hk2 hrv hwo hcm hg0 hg1)
        · exact SFF (C1 := WC rk s f n sn sc q i0 a0 b0 p0 k0 i1 a1 b1 p1 k1 y0 y1 y2 y3 y4 y5 t dn dd fi rv) (M1 := WM s f n sn sc q k0 k1 vl va vw vr vs vc t2 tk du c2 wo cm g0 g1) (t_told_3 7 rk f sn sc n q s) (m_told_3 5 vl va vw vr vs vc q n s) mC_0t9 (mC_0t9 (rk' := rk) (s' := s) (f' := f) (n' := n) (sn' := sn) (sc' := sc) (q' := q)) mM_38t39 (mM_38t39 (s' := s) (n' := n) (q' := q) (vl' := vl) (va' := va) (vw' := vw) (vr' := vr) (vs' := vs) (vc' := vc)) (CI_mk hs hn hq ht hi0 hi1 zn zc za0 zb0 za1 zb1 hp0 hp1 hc2 hk1 hk2 hrv hwo hcm hg0 hg1)
        · exact SFF (C1 := WC rk s f n sn sc q i0 a0 b0 p0 k0 i1 a1 b1 p1 k1 y0 y1 y2 y3 y4 y5 t dn dd fi rv) (M1 := WM s f n sn sc q k0 k1 vl va vw vr vs vc t2 tk du c2 wo cm g0 g1) (t_told_4 7 rk f sn sc n q s) (m_told_4 5 vl va vw vr vs vc q n s) mC_0t9 (mC_0t9 (rk' := rk) (s' := s) (f' := f) (n' := n) (sn' := sn) (sc' := sc) (q' := q)) mM_38t39 (mM_38t39 (s' := s) (n' := n) (q' := q) (vl' := vl) (va' := va) (vw' := vw) (vr' := vr) (vs' := vs) (vc' := vc)) (CI_mk hs hn hq ht hi0 hi1 zn zc za0 zb0 za1 zb1 hp0 hp1 hc2 hk1 hk2 hrv hwo hcm hg0 hg1)
        · exact SFF (C1 := WC rk s f n sn sc q i0 a0 b0 p0 k0 i1 a1 b1 p1 k1 y0 y1 y2 y3 y4 y5 t dn dd fi rv) (M1 := WM s f n sn sc q k0 k1 vl va vw vr vs vc t2 tk du c2 wo cm g0 g1) (t_told_5 7 rk f sn sc n q s) (m_told_5 5 vl va vw vr vs vc q n s) mC_0t9 (mC_0t9 (rk' := rk) (s' := s) (f' := f) (n' := n) (sn' := sn) (sc' := sc) (q' := q)) mM_38t39 (mM_38t39 (s' := s) (n' := n) (q' := q) (vl' := vl) (va' := va) (vw' := vw) (vr' := vr) (vs' := vs) (vc' := vc)) (CI_mk hs hn hq ht hi0 hi1 zn zc za0 zb0 za1 zb1 hp0 hp1 hc2 hk1 hk2 hrv hwo hcm hg0 hg1)
        · exact SFF (C1 := WC rk s f n sn sc q i0 a0 b0 p0 k0 i1 a1 b1 p1 k1 y0 y1 y2 y3 y4 y5 t dn dd fi rv) (M1 := WM s f n sn sc q k0 k1 vl va vw vr vs vc t2 tk du c2 wo cm g0 g1) (t_told_6 7 rk f sn sc n q s) (m_told_6 5 vl va vw vr vs vc q n s) mC_0t9 (mC_0t9 (rk' := rk) (s' := s) (f' := f) (n' := n) (sn' := sn) (sc' := sc) (q' := q)) mM_38t39 (mM_38t39 (s' := s) (n' := n) (q' := q) (vl' := vl) (va' := va) (vw' := vw) (vr' := vr) (vs' := vs) (vc' := vc)) (CI_mk hs hn hq ht hi0 hi1 zn zc za0 zb0 za1 zb1 hp0 hp1 hc2 hk1 hk2 hrv hwo hcm hg0 hg1)
      · exact SFF (C1 := WC rk s f n sn sc q i0 a0 b0 p0 k0 i1 a1 b1 p1 k1 y0 y1 y2 y3 y4 y5 t dn dd fi rv) (M1 := WM s f n sn sc q k0 k1 vl va vw vr vs vc t2 tk du c2 wo cm g0 g1) (t_told_oA 7 rk _ h10 (Or.inr (by rw [nI_toInt hk]; omega))) (m_told_oA 5 (sbu s) vl va vw vr vs vc q n _ h10 (Or.inr (by rw [nI_toInt hk]; omega))) mC_0 (mC_0 (rk' := rk)) mM_38 (mM_38 (n' := n) (q' := q) (vl' := vl) (va' := va) (vw' := vw) (vr' := vr) (vs' := vs) (vc' := vc)) (CI_mk hs hn hq ht hi0 hi1 zn zc za0 zb0 za1 zb1 hp0 hp1 hc2 hk1 hk2 hrv hwo hcm hg0 hg1)

set_option maxHeartbeats 4000000 in
set_option maxRecDepth 20000 in
theorem S_year (xa xb xc : Int32) : STEP YX6_year YX7_year [.ref 0, .int xa, .int xb, .int xc, .null, .null, .null, .null, .null, .null] [.ref 38, .int xa, .int xb, .int xc, .null, .null, .null] := by
  intro C M hI
  obtain ⟨rk, s, f, n, sn, sc, q, i0, a0, b0, p0, k0, i1, a1, b1, p1, k1, y0, y1, y2, y3, y4, y5, t, dn, dd, fi, rv, vl, va, vw, vr, vs, vc, t2, tk, du, c2, wo, cm, g0, g1, rfl, rfl, hs, hn, hq, ht, hi0, hi1, zn, zc, za0, zb0, za1, zb1, hp0, hp1, hc2, hk1, hk2, hrv, hwo, hcm, hg0, hg1⟩ := hI
  cases h0 : inI xa 0 9999 with
  | false =>
    exact SFF (C1 := WC rk s f n sn sc q i0 a0 b0 p0 k0 i1 a1 b1 p1 k1 y0 y1 y2 y3 y4 y5 t dn dd fi rv) (M1 := WM s f n sn sc q k0 k1 vl va vw vr vs vc t2 tk du c2 wo cm g0 g1) (t_year_o0 1 rk xa xb xc (in_x h0 L0 L9999)) (m_year_o0 3 (sbu s) vl va vw vr vs vc q n xa xb xc h0) mC_0 (mC_0 (rk' := rk)) mM_38 (mM_38 (n' := n) (q' := q) (vl' := vl) (va' := va) (vw' := vw) (vr' := vr) (vs' := vs) (vc' := vc)) (CI_mk hs hn hq ht hi0 hi1 zn zc za0 zb0 za1 zb1 hp0 hp1 hc2 hk1 hk2 hrv hwo hcm hg0 hg1)
  | true =>
    cases h1 : inI xb 1 99 with
    | false =>
      exact SFF (C1 := WC rk s f n sn sc q i0 a0 b0 p0 k0 i1 a1 b1 p1 k1 y0 y1 y2 y3 y4 y5 t dn dd fi rv) (M1 := WM s f n sn sc q k0 k1 vl va vw vr vs vc t2 tk du c2 wo cm g0 g1) (t_year_o1 1 rk xa xb xc (in_x h0 L0 L9999) (in_x h1 L1 L99)) (m_year_o1 3 (sbu s) vl va vw vr vs vc q n xa xb xc h0 h1) mC_0 (mC_0 (rk' := rk)) mM_38 (mM_38 (n' := n) (q' := q) (vl' := vl) (va' := va) (vw' := vw) (vr' := vr) (vs' := vs) (vc' := vc)) (CI_mk hs hn hq ht hi0 hi1 zn zc za0 zb0 za1 zb1 hp0 hp1 hc2 hk1 hk2 hrv hwo hcm hg0 hg1)
    | true =>
      cases h2 : inI xc 0 2 with
      | false =>
        exact SFF (C1 := WC rk s f n sn sc q i0 a0 b0 p0 k0 i1 a1 b1 p1 k1 y0 y1 y2 y3 y4 y5 t dn dd fi rv) (M1 := WM s f n sn sc q k0 k1 vl va vw vr vs vc t2 tk du c2 wo cm g0 g1) (t_year_o2 1 rk xa xb xc (in_x h0 L0 L9999) (in_x h1 L1 L99) (in_x h2 L0 L2)) (m_year_o2 3 (sbu s) vl va vw vr vs vc q n xa xb xc h0 h1 h2) mC_0 (mC_0 (rk' := rk)) mM_38 (mM_38 (n' := n) (q' := q) (vl' := vl) (va' := va) (vw' := vw) (vr' := vr) (vs' := vs) (vc' := vc)) (CI_mk hs hn hq ht hi0 hi1 zn zc za0 zb0 za1 zb1 hp0 hp1 hc2 hk1 hk2 hrv hwo hcm hg0 hg1)
      | true =>
        obtain ⟨kx, -, hkx, rfl⟩ := in_nI h0 (a := 0) (b := 9999) rfl rfl (by decide) (by decide)
        obtain ⟨km, hm1, hkm, rfl⟩ := in_nI h1 (a := 1) (b := 99) rfl rfl (by decide) (by decide)
        rcases in02 h2 with rfl | rfl | rfl
        · exact SFR (C1 := WC rk s f n sn sc q i0 a0 b0 p0 k0 i1 a1 b1 p1 k1 y0 y1 y2 y3 y4 y5 ((yr s kx km).1) dn dd fi rv) (t_year_0 1 rk s t (ht.agr hs) y0 y1 y2 y3 y4 y5 kx km (by omega) (by omega) (in_x h0 L0 L9999) (in_x h1 L1 L99)) (m_year_0 3 vl va vw vr vs vc q n s t2 hs kx km (by omega) (by omega) h0 h1) mC_0t4_26t30 (mC_0t4_26t30 (rk' := rk) (s' := s) (y0' := y0) (y1' := y1) (y2' := y2) (y3' := y3) (y4' := y4) (y5' := y5) (t' := (yr s kx km).1)) mM_38t40 (WC_klt _ _ _ _ _ _ _ _ _ _ _ _ _ _ _ _ _ _ _ _ _ _ _ _ _ _ _ _) (fun v Mx hx => by
            obtain ⟨fl', fr', rs', rfl, rfl⟩ := hx
            exact ⟨rfl, WM s f n sn sc q k0 k1 fl' (-6) (-6) fr' rs' vc ((yr s kx km).1) tk du c2 wo cm g0 g1, (mM_38t40 (s' := s) (n' := n) (q' := q) (vl' := fl') (va' := (-6)) (vw' := (-6)) (vr' := fr') (vs' := rs') (vc' := vc) (t2' := (yr s kx km).1)), CI_mk hs hn hq ((yr_ok hs kx km).1) hi0 hi1 zn zc za0 zb0 za1 zb1 hp0 hp1 hc2 hk1 hk2 hrv hwo hcm hg0 hg1⟩)
        · exact SFR (C1 := WC rk s f n sn sc q i0 a0 b0 p0 k0 i1 a1 b1 p1 k1 y0 y1 y2 y3 y4 y5 ((yr s kx km).1) dn dd fi rv) (t_year_1 1 rk s t (ht.agr hs) y0 y1 y2 y3 y4 y5 kx km (by omega) (by omega) (in_x h0 L0 L9999) (in_x h1 L1 L99)) (m_year_1 3 vl va vw vr vs vc q n s t2 hs kx km (by omega) (by omega) h0 h1) mC_0t4_26t30 (mC_0t4_26t30 (rk' := rk) (s' := s) (y0' := y0) (y1' := y1) (y2' := y2) (y3' := y3) (y4' := y4) (y5' := y5) (t' := (yr s kx km).1)) mM_38t40 (WC_klt _ _ _ _ _ _ _ _ _ _ _ _ _ _ _ _ _ _ _ _ _ _ _ _ _ _ _ _) (fun v Mx hx => by
            obtain ⟨fl', fr', rs', rfl, rfl⟩ := hx
            exact ⟨rfl, WM s f n sn sc q k0 k1 fl' (-6) (-6) fr' rs' vc ((yr s kx km).1) tk du c2 wo cm g0 g1, (mM_38t40 (s' := s) (n' := n) (q' := q) (vl' := fl') (va' := (-6)) (vw' := (-6)) (vr' := fr') (vs' := rs') (vc' := vc) (t2' := (yr s kx km).1)), CI_mk hs hn hq ((yr_ok hs kx km).1) hi0 hi1 zn zc za0 zb0 za1 zb1 hp0 hp1 hc2 hk1 hk2 hrv hwo hcm hg0 hg1⟩)
        · exact SFR (C1 := WC rk s f n sn sc q i0 a0 b0 p0 k0 i1 a1 b1 p1 k1 y0 y1 y2 y3 y4 y5 ((yr s kx km).1) dn dd fi rv) (t_year_2 1 rk s t (ht.agr hs) y0 y1 y2 y3 y4 y5 kx km (by omega) (by omega) (in_x h0 L0 L9999) (in_x h1 L1 L99)) (m_year_2 3 vl va vw vr vs vc q n s t2 hs kx km (by omega) (by omega) h0 h1) mC_0t4_26t30 (mC_0t4_26t30 (rk' := rk) (s' := s) (y0' := y0) (y1' := y1) (y2' := y2) (y3' := y3) (y4' := y4) (y5' := y5) (t' := (yr s kx km).1)) mM_38t40 (WC_klt _ _ _ _ _ _ _ _ _ _ _ _ _ _ _ _ _ _ _ _ _ _ _ _ _ _ _ _) (fun v Mx hx => by
            obtain ⟨fl', fr', rs', rfl, rfl⟩ := hx
            exact ⟨rfl, WM s f n sn sc q k0 k1 fl' (-6) (-6) fr' rs' vc ((yr s kx km).1) tk du c2 wo cm g0 g1, (mM_38t40 (s' := s) (n' := n) (q' := q) (vl' := fl') (va' := (-6)) (vw' := (-6)) (vr' := fr') (vs' := rs') (vc' := vc) (t2' := (yr s kx km).1)), CI_mk hs hn hq ((yr_ok hs kx km).1) hi0 hi1 zn zc za0 zb0 za1 zb1 hp0 hp1 hc2 hk1 hk2 hrv hwo hcm hg0 hg1⟩)

set_option maxHeartbeats 4000000 in
set_option maxRecDepth 20000 in
theorem S_matter (xa : Int32) : STEP YX6_matter YX7_matter [.ref 0, .int xa, .null] [.ref 38, .int xa, .null, .null] := by
  intro C M hI
  obtain ⟨rk, s, f, n, sn, sc, q, i0, a0, b0, p0, k0, i1, a1, b1, p1, k1, y0, y1, y2, y3, y4, y5, t, dn, dd, fi, rv, vl, va, vw, vr, vs, vc, t2, tk, du, c2, wo, cm, g0, g1, rfl, rfl, hs, hn, hq, ht, hi0, hi1, zn, zc, za0, zb0, za1, zb1, hp0, hp1, hc2, hk1, hk2, hrv, hwo, hcm, hg0, hg1⟩ := hI
  by_cases h1 : xa = -1
  · subst h1
    exact SFF (C1 := WC rk s f n sn sc q i0 a0 b0 p0 k0 i1 a1 b1 p1 k1 y0 y1 y2 y3 y4 y5 t dn dd (frL (fitB sn sc q) fi 49) rv) (M1 := WM s f n sn sc q k0 k1 vl va vw vr vs vc t2 tk du c2 wo cm g0 g1) (t_mat_all 4 rk sn sc fi q hq) (m_mat_all 5 (sbu s) vl va vw vr vs vc q n sn sc hq) mC_0_7t9_35 (mC_0_7t9_35 (rk' := rk) (sn' := sn) (sc' := sc) (q' := q) (fi' := frL (fitB sn sc q) fi 49)) mM_38_41 (mM_38_41 (n' := n) (sn' := sn) (sc' := sc) (q' := q) (vl' := vl) (va' := va) (vw' := vw) (vr' := vr) (vs' := vs) (vc' := vc)) (CI_mk hs hn hq ht hi0 hi1 zn zc za0 zb0 za1 zb1 hp0 hp1 hc2 hk1 hk2 hrv hwo hcm hg0 hg1)
  · by_cases h2 : xa < 0
    · exact SFF (C1 := WC rk s f n sn sc q i0 a0 b0 p0 k0 i1 a1 b1 p1 k1 y0 y1 y2 y3 y4 y5 t dn dd (frL (fitB sn sc q) fi 49) rv) (M1 := WM s f n sn sc q k0 k1 vl va vw vr vs vc t2 tk du c2 wo cm g0 g1) (t_mat_neg 4 rk sn sc fi q hq xa h1 h2) (m_mat_neg 5 (sbu s) vl va vw vr vs vc q n sn sc hq xa h1 h2) mC_0_7t9_35 (mC_0_7t9_35 (rk' := rk) (sn' := sn) (sc' := sc) (q' := q) (fi' := frL (fitB sn sc q) fi 49)) mM_38_41 (mM_38_41 (n' := n) (sn' := sn) (sc' := sc) (q' := q) (vl' := vl) (va' := va) (vw' := vw) (vr' := vr) (vs' := vs) (vc' := vc)) (CI_mk hs hn hq ht hi0 hi1 zn zc za0 zb0 za1 zb1 hp0 hp1 hc2 hk1 hk2 hrv hwo hcm hg0 hg1)
    · obtain ⟨k, hk, rfl⟩ := nI_of h2
      by_cases h3 : k < (fcL (fitB sn sc q) 49).length
      · exact SFF (C1 := WC rk s f n sn sc q i0 a0 b0 p0 k0 i1 a1 b1 p1 k1 y0 y1 y2 y3 y4 y5 t dn dd (frL (fitB sn sc q) fi 49) rv) (M1 := WM s f n sn sc q k0 k1 vl va vw vr vs vc t2 tk du c2 wo cm g0 g1) (t_mat_in 4 rk sn sc fi q hq k h3 h1) (m_mat_in 5 (sbu s) vl va vw vr vs vc q n sn sc hq fi k h3) mC_0_7t9_35 (mC_0_7t9_35 (rk' := rk) (sn' := sn) (sc' := sc) (q' := q) (fi' := frL (fitB sn sc q) fi 49)) mM_38_41 (mM_38_41 (n' := n) (sn' := sn) (sc' := sc) (q' := q) (vl' := vl) (va' := va) (vw' := vw) (vr' := vr) (vs' := vs) (vc' := vc)) (CI_mk hs hn hq ht hi0 hi1 zn zc za0 zb0 za1 zb1 hp0 hp1 hc2 hk1 hk2 hrv hwo hcm hg0 hg1)
      · exact SFF (C1 := WC rk s f n sn sc q i0 a0 b0 p0 k0 i1 a1 b1 p1 k1 y0 y1 y2 y3 y4 y5 t dn dd (frL (fitB sn sc q) fi 49) rv) (M1 := WM s f n sn sc q k0 k1 vl va vw vr vs vc t2 tk du c2 wo cm g0 g1) (t_mat_big 4 rk sn sc fi q hq (nI k) h1 h2 (nI_le (Nat.not_lt.mp h3) hk)) (m_mat_big 5 (sbu s) vl va vw vr vs vc q n sn sc hq (nI k) h2 (nI_le (Nat.not_lt.mp h3) hk)) mC_0_7t9_35 (mC_0_7t9_35 (rk' := rk) (sn' := sn) (sc' := sc) (q' := q) (fi' := frL (fitB sn sc q) fi 49)) mM_38_41 (mM_38_41 (n' := n) (sn' := sn) (sc' := sc) (q' := q) (vl' := vl) (va' := va) (vw' := vw) (vr' := vr) (vs' := vs) (vc' := vc)) (CI_mk hs hn hq ht hi0 hi1 zn zc za0 zb0 za1 zb1 hp0 hp1 hc2 hk1 hk2 hrv hwo hcm hg0 hg1)

set_option maxHeartbeats 4000000 in
set_option maxRecDepth 20000 in
theorem S_ask (xa : Int32) : STEP YX6_ask YX7_ask [.ref 0, .int xa, .null, .null, .null, .null, .null] [.ref 38, .int xa, .null, .null, .null, .null, .null, .null] := by
  intro C M hI
  obtain ⟨rk, s, f, n, sn, sc, q, i0, a0, b0, p0, k0, i1, a1, b1, p1, k1, y0, y1, y2, y3, y4, y5, t, dn, dd, fi, rv, vl, va, vw, vr, vs, vc, t2, tk, du, c2, wo, cm, g0, g1, rfl, rfl, hs, hn, hq, ht, hi0, hi1, zn, zc, za0, zb0, za1, zb1, hp0, hp1, hc2, hk1, hk2, hrv, hwo, hcm, hg0, hg1⟩ := hI
  cases hv : inI xa 0 1 with
  | false =>
    exact SFF (C1 := WC rk s f n sn sc q i0 a0 b0 p0 k0 i1 a1 b1 p1 k1 y0 y1 y2 y3 y4 y5 t dn dd fi rv) (M1 := WM s f n sn sc q k0 k1 vl va vw vr vs vc t2 tk du c2 wo cm g0 g1) (t_ask_out 4 rk xa (in_x hv L0 L1)) (m_ask_out 5 (sbu s) vl va vw vr vs vc q n xa hv) mC_0 (mC_0 (rk' := rk)) mM_38 (mM_38 (n' := n) (q' := q) (vl' := vl) (va' := va) (vw' := vw) (vr' := vr) (vs' := vs) (vc' := vc)) (CI_mk hs hn hq ht hi0 hi1 zn zc za0 zb0 za1 zb1 hp0 hp1 hc2 hk1 hk2 hrv hwo hcm hg0 hg1)
  | true =>
    by_cases hl : (fcL (fitB sn sc q) 49).length = 0
    · exact SFF (C1 := WC rk s f n sn sc q i0 a0 b0 p0 k0 i1 a1 b1 p1 k1 y0 y1 y2 y3 y4 y5 t dn dd (frL (fitB sn sc q) fi 49) rv) (M1 := WM s f n sn sc q k0 k1 vl va vw vr vs vc t2 tk du (ccA c2 (fun k => (fcL (fitB sn sc q) 49).getD k 0) (fcL (fitB sn sc q) 49).length 21) wo cm g0 g1) (t_ask_none 4 rk sn sc fi q hq xa (in_x hv L0 L1) hl) (m_ask_none 5 (sbu s) vl va vw vr vs vc q n sn sc c2 hc2 hq xa hv hl) mC_0_7t9_35 (mC_0_7t9_35 (rk' := rk) (sn' := sn) (sc' := sc) (q' := q) (fi' := frL (fitB sn sc q) fi 49)) mM_38_41_45 (mM_38_41_45 (n' := n) (sn' := sn) (sc' := sc) (q' := q) (vl' := vl) (va' := va) (vw' := vw) (vr' := vr) (vs' := vs) (vc' := vc) (c2' := ccA c2 (fun k => (fcL (fitB sn sc q) 49).getD k 0) (fcL (fitB sn sc q) 49).length 21)) (CI_mk hs hn hq ht hi0 hi1 zn zc za0 zb0 za1 zb1 hp0 hp1 (ccA_z hc2 21) hk1 hk2 hrv hwo hcm hg0 hg1)
    · rcases in01 hv with rfl | rfl
      · exact SFF (C1 := WC rk s f n sn sc q i0 a0 b0 p0 k0 i1 a1 b1 p1 k1 y0 y1 y2 y3 y4 y5 t dn dd (frL (fitB sn sc q) fi 49) rv) (M1 := WM s f n sn sc q k0 k1 vl va vw vr vs vc t2 tk du (ccA c2 (fun k => (fcL (fitB sn sc q) 49).getD k 0) (fcL (fitB sn sc q) 49).length 21) wo cm g0 g1) (t_ask_0 4 rk sn sc fi q hq hl) (m_ask_0 5 (sbu s) vl va vw vr vs vc q n sn sc c2 hc2 hq hl) mC_0_7t9_35 (mC_0_7t9_35 (rk' := rk) (sn' := sn) (sc' := sc) (q' := q) (fi' := frL (fitB sn sc q) fi 49)) mM_38_41_45 (mM_38_41_45 (n' := n) (sn' := sn) (sc' := sc) (q' := q) (vl' := vl) (va' := va) (vw' := vw) (vr' := vr) (vs' := vs) (vc' := vc) (c2' := ccA c2 (fun k => (fcL (fitB sn sc q) 49).getD k 0) (fcL (fitB sn sc q) 49).length 21)) (CI_mk hs hn hq ht hi0 hi1 zn zc za0 zb0 za1 zb1 hp0 hp1 (ccA_z hc2 21) hk1 hk2 hrv hwo hcm hg0 hg1)
      · exact SFF (C1 := WC rk s f n sn sc q i0 a0 b0 p0 k0 i1 a1 b1 p1 k1 y0 y1 y2 y3 y4 y5 t dn dd (frL (fitB sn sc q) fi 49) rv) (M1 := WM s f n sn sc q k0 k1 vl va vw vr vs vc t2 tk du (ccA c2 (fun k => (fcL (fitB sn sc q) 49).getD k 0) (fcL (fitB sn sc q) 49).length 21) wo cm g0 g1) (t_ask_1 4 rk sn sc fi q hq hl) (m_ask_1 5 (sbu s) vl va vw vr vs vc q n sn sc c2 hc2 hq hl) mC_0_7t9_35 (mC_0_7t9_35 (rk' := rk) (sn' := sn) (sc' := sc) (q' := q) (fi' := frL (fitB sn sc q) fi 49)) mM_38_41_45 (mM_38_41_45 (n' := n) (sn' := sn) (sc' := sc) (q' := q) (vl' := vl) (va' := va) (vw' := vw) (vr' := vr) (vs' := vs) (vc' := vc) (c2' := ccA c2 (fun k => (fcL (fitB sn sc q) 49).getD k 0) (fcL (fitB sn sc q) 49).length 21)) (CI_mk hs hn hq ht hi0 hi1 zn zc za0 zb0 za1 zb1 hp0 hp1 (ccA_z hc2 21) hk1 hk2 hrv hwo hcm hg0 hg1)
