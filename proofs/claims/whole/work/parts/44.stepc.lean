def SRL (Yc Ym : MY) (lc lm : List Value) (C M : List (Nat × AC)) : Prop := ∃ r : Int64, ∀ hp : HP, E Yc 7 0 lc [] (hov hp C) (fun v h => v = some (.long r) ∧ ∃ C1, h = hov hp C1 ∧ KLT C1 ∧ ∀ hp2 : HP, E Ym 7 0 lm [] (hov hp2 M) (fun v h => v = some (.long r) ∧ ∃ M1, h = hov hp2 M1 ∧ CI C1 M1))
def STEPL (Yc Ym : MY) (lc lm : List Value) : Prop := ∀ C M : List (Nat × AC), CI C M → SRL Yc Ym lc lm C M
section
variable {Yc Ym : MY} {lc lm : List Value} {C M C0 C0' M0 M0' C1 M1 : List (Nat × AC)}
theorem SFFL {r : Int64} (hc : FC Yc 7 lc C0 (some (.long r)) C0') (hm : FC Ym 7 lm M0 (some (.long r)) M0') (e0 : mrg C C0 = C) (e1 : mrg C C0' = C1) (f0 : mrg M M0 = M) (f1 : mrg M M0' = M1) (hI : CI C1 M1) : SRL Yc Ym lc lm C M :=
  ⟨r, fun hp => E_mono (hc.use (hp := hp) e0 e1) (fun v h hq => ⟨hq.1, C1, hq.2, CI_klt hI, fun hp2 => E_mono (hm.use (hp := hp2) f0 f1) (fun v h hq => ⟨hq.1, M1, hq.2, hI⟩)⟩)⟩
end

set_option maxHeartbeats 4000000 in
set_option maxRecDepth 20000 in
theorem S_nods (xa xb xc xd xe xf : Int32) : STEP YX6_nods YX7_nods [.ref 0, .int xa, .int xb, .int xc, .int xd, .int xe, .int xf, .null, .null] [.ref 38, .int xa, .int xb, .int xc, .int xd, .int xe, .int xf, .null, .null, .null, .null] := by
  intro C M hI
  obtain ⟨rk, s, f, n, sn, sc, q, i0, a0, b0, p0, k0, i1, a1, b1, p1, k1, y0, y1, y2, y3, y4, y5, t, dn, dd, fi, rv, vl, va, vw, vr, vs, vc, t2, tk, du, c2, wo, cm, g0, g1, rfl, rfl, hs, hn, hq, ht, hi0, hi1, zn, zc, za0, zb0, za1, zb1, hp0, hp1, hc2, hk1, hk2, hrv, hwo, hcm, hg0, hg1⟩ := hI
  cases h0 : inI xa 1 9 with
  | false =>
    exact SFF (C1 := WC rk s f n sn sc q i0 a0 b0 p0 k0 i1 a1 b1 p1 k1 y0 y1 y2 y3 y4 y5 t dn dd fi rv) (M1 := WM s f n sn sc q k0 k1 vl va vw vr vs vc t2 tk du c2 wo cm g0 g1) (t_nods_o0 6 rk xa xb xc xd xe xf (in_x h0 L1 L9)) (m_nods_o0 6 (sbu s) vl va vw vr vs vc q n xa xb xc xd xe xf h0) mC_0 (mC_0 (rk' := rk)) mM_38 (mM_38 (n' := n) (q' := q) (vl' := vl) (va' := va) (vw' := vw) (vr' := vr) (vs' := vs) (vc' := vc)) (CI_mk hs hn hq ht hi0 hi1 zn zc za0 zb0 za1 zb1 hp0 hp1 hc2 hk1 hk2 hrv hwo hcm hg0 hg1)
  | true =>
    cases h1 : inI xb 1 9 with
    | false =>
      exact SFF (C1 := WC rk s f n sn sc q i0 a0 b0 p0 k0 i1 a1 b1 p1 k1 y0 y1 y2 y3 y4 y5 t dn dd fi rv) (M1 := WM s f n sn sc q k0 k1 vl va vw vr vs vc t2 tk du c2 wo cm g0 g1) (t_nods_o1 6 rk xa xb xc xd xe xf (in_x h0 L1 L9) (in_x h1 L1 L9)) (m_nods_o1 6 (sbu s) vl va vw vr vs vc q n xa xb xc xd xe xf h0 h1) mC_0 (mC_0 (rk' := rk)) mM_38 (mM_38 (n' := n) (q' := q) (vl' := vl) (va' := va) (vw' := vw) (vr' := vr) (vs' := vs) (vc' := vc)) (CI_mk hs hn hq ht hi0 hi1 zn zc za0 zb0 za1 zb1 hp0 hp1 hc2 hk1 hk2 hrv hwo hcm hg0 hg1)
    | true =>
      cases h2 : inI xc 1 9 with
      | false =>
        exact SFF (C1 := WC rk s f n sn sc q i0 a0 b0 p0 k0 i1 a1 b1 p1 k1 y0 y1 y2 y3 y4 y5 t dn dd fi rv) (M1 := WM s f n sn sc q k0 k1 vl va vw vr vs vc t2 tk du c2 wo cm g0 g1) (t_nods_o2 6 rk xa xb xc xd xe xf (in_x h0 L1 L9) (in_x h1 L1 L9) (in_x h2 L1 L9)) (m_nods_o2 6 (sbu s) vl va vw vr vs vc q n xa xb xc xd xe xf h0 h1 h2) mC_0 (mC_0 (rk' := rk)) mM_38 (mM_38 (n' := n) (q' := q) (vl' := vl) (va' := va) (vw' := vw) (vr' := vr) (vs' := vs) (vc' := vc)) (CI_mk hs hn hq ht hi0 hi1 zn zc za0 zb0 za1 zb1 hp0 hp1 hc2 hk1 hk2 hrv hwo hcm hg0 hg1)
      | true =>
        cases h3 : inI xd 1 9 with
        | false =>
          exact SFF (C1 := WC rk s f n sn sc q i0 a0 b0 p0 k0 i1 a1 b1 p1 k1 y0 y1 y2 y3 y4 y5 t dn dd fi rv) (M1 := WM s f n sn sc q k0 k1 vl va vw vr vs vc t2 tk du c2 wo cm g0 g1) (t_nods_o3 6 rk xa xb xc xd xe xf (in_x h0 L1 L9) (in_x h1 L1 L9) (in_x h2 L1 L9) (in_x h3 L1 L9)) (m_nods_o3 6 (sbu s) vl va vw vr vs vc q n xa xb xc xd xe xf h0 h1 h2 h3) mC_0 (mC_0 (rk' := rk)) mM_38 (mM_38 (n' := n) (q' := q) (vl' := vl) (va' := va) (vw' := vw) (vr' := vr) (vs' := vs) (vc' := vc)) (CI_mk hs hn hq ht hi0 hi1 zn zc za0 zb0 za1 zb1 hp0 hp1 hc2 hk1 hk2 hrv hwo hcm hg0 hg1)
        | true =>
          cases h4 : inI xe 0 9999 with
          | false =>
            exact SFF (C1 := WC rk s f n sn sc q i0 a0 b0 p0 k0 i1 a1 b1 p1 k1 y0 y1 y2 y3 y4 y5 t dn dd fi rv) (M1 := WM s f n sn sc q k0 k1 vl va vw vr vs vc t2 tk du c2 wo cm g0 g1) (t_nods_o4 6 rk xa xb xc xd xe xf (in_x h0 L1 L9) (in_x h1 L1 L9) (in_x h2 L1 L9) (in_x h3 L1 L9) (in_x h4 L0 L9999)) (m_nods_o4 6 (sbu s) vl va vw vr vs vc q n xa xb xc xd xe xf h0 h1 h2 h3 h4) mC_0 (mC_0 (rk' := rk)) mM_38 (mM_38 (n' := n) (q' := q) (vl' := vl) (va' := va) (vw' := vw) (vr' := vr) (vs' := vs) (vc' := vc)) (CI_mk hs hn hq ht hi0 hi1 zn zc za0 zb0 za1 zb1 hp0 hp1 hc2 hk1 hk2 hrv hwo hcm hg0 hg1)
          | true =>
            cases h5 : inI xf 0 1 with
            | false =>
              exact SFF (C1 := WC rk s f n sn sc q i0 a0 b0 p0 k0 i1 a1 b1 p1 k1 y0 y1 y2 y3 y4 y5 t dn dd fi rv) (M1 := WM s f n sn sc q k0 k1 vl va vw vr vs vc t2 tk du c2 wo cm g0 g1) (t_nods_o5 6 rk xa xb xc xd xe xf (in_x h0 L1 L9) (in_x h1 L1 L9) (in_x h2 L1 L9) (in_x h3 L1 L9) (in_x h4 L0 L9999) (in_x h5 L0 L1)) (m_nods_o5 6 (sbu s) vl va vw vr vs vc q n xa xb xc xd xe xf h0 h1 h2 h3 h4 h5) mC_0 (mC_0 (rk' := rk)) mM_38 (mM_38 (n' := n) (q' := q) (vl' := vl) (va' := va) (vw' := vw) (vr' := vr) (vs' := vs) (vc' := vc)) (CI_mk hs hn hq ht hi0 hi1 zn zc za0 zb0 za1 zb1 hp0 hp1 hc2 hk1 hk2 hrv hwo hcm hg0 hg1)
            | true =>
              obtain ⟨ka, ka1, ka2, rfl⟩ := in_nI h0 (a := 1) (b := 9) rfl rfl (by decide) (by decide)
              obtain ⟨kb, kb1, kb2, rfl⟩ := in_nI h1 (a := 1) (b := 9) rfl rfl (by decide) (by decide)
              obtain ⟨kc, kc1, kc2, rfl⟩ := in_nI h2 (a := 1) (b := 9) rfl rfl (by decide) (by decide)
              obtain ⟨kd, kd1, kd2, rfl⟩ := in_nI h3 (a := 1) (b := 9) rfl rfl (by decide) (by decide)
              obtain ⟨ke, ke1, ke2, rfl⟩ := in_nI h4 (a := 0) (b := 9999) rfl rfl (by decide) (by decide)
              obtain ⟨P, hP⟩ : ∃ P, (ka + kb) * (kc + kd) = P := ⟨_, rfl⟩
              have hP1 : 4 ≤ P := by rw [← hP]; exact Nat.mul_le_mul (show 2 ≤ ka + kb by omega) (show 2 ≤ kc + kd by omega)
              have hP2 : P ≤ 324 := by rw [← hP]; exact Nat.mul_le_mul (show ka + kb ≤ 18 by omega) (show kc + kd ≤ 18 by omega)
              obtain ⟨j, hj, hpj, hno⟩ := first_of (P - 1) (bth_last hP kb1 kd1)
              have hjP : j < P := by omega
              rcases in01 h5 with rfl | rfl
              · exact SFF (C1 := WC rk s f n sn sc q i0 a0 b0 p0 k0 i1 a1 b1 p1 k1 y0 y1 y2 y3 y4 y5 t dn dd fi rv) (M1 := WM s f n sn sc q k0 k1 vl va vw vr vs vc t2 tk du c2 wo cm g0 g1) (t_nods_0 5 rk ka kb kc kd ke P ka1 ka2 kb1 kb2 kc1 kc2 kd1 kd2 (by omega) hP hP1 hP2 (in_x h0 L1 L9) (in_x h1 L1 L9) (in_x h2 L1 L9) (in_x h3 L1 L9) (in_x h4 L0 L9999)) (m_nods_0 6 (sbu s) vl va vw vr vs vc q n ka kb kc kd ke P j ka1 ka2 kb1 kb2 kc1 kc2 kd1 kd2 (by omega) hP hP2 h0 h1 h2 h3 h4 hjP hpj hno) mC_0 (mC_0 (rk' := rk)) mM_38 (mM_38 (n' := n) (q' := q) (vl' := vl) (va' := va) (vw' := vw) (vr' := vr) (vs' := vs) (vc' := vc)) (CI_mk hs hn hq ht hi0 hi1 zn zc za0 zb0 za1 zb1 hp0 hp1 hc2 hk1 hk2 hrv hwo hcm hg0 hg1)
              · exact SFF (C1 := WC rk s f n sn sc q i0 a0 b0 p0 k0 i1 a1 b1 p1 k1 y0 y1 y2 y3 y4 y5 t dn dd fi rv) (M1 := WM s f n sn sc q k0 k1 vl va vw vr vs vc t2 tk du c2 wo cm g0 g1) (t_nods_1 5 rk ka kb kc kd ke P ka1 ka2 kb1 kb2 kc1 kc2 kd1 kd2 (by omega) hP hP1 hP2 (in_x h0 L1 L9) (in_x h1 L1 L9) (in_x h2 L1 L9) (in_x h3 L1 L9) (in_x h4 L0 L9999) j hjP hpj hno) (m_nods_1 6 (sbu s) vl va vw vr vs vc q n ka kb kc kd ke P j ka1 ka2 kb1 kb2 kc1 kc2 kd1 kd2 (by omega) hP hP2 h0 h1 h2 h3 h4 hjP hpj hno) mC_0 (mC_0 (rk' := rk)) mM_38 (mM_38 (n' := n) (q' := q) (vl' := vl) (va' := va) (vw' := vw) (vr' := vr) (vs' := vs) (vc' := vc)) (CI_mk hs hn hq ht hi0 hi1 zn zc za0 zb0 za1 zb1 hp0 hp1 hc2 hk1 hk2 hrv hwo hcm hg0 hg1)

set_option maxHeartbeats 4000000 in
set_option maxRecDepth 20000 in
theorem S_takes (xa xb : Int32) : STEP YX6_takes YX7_takes [.ref 0, .int xa, .int xb, .null] [.ref 38, .int xa, .int xb, .null, .null] := by
  intro C M hI
  obtain ⟨rk, s, f, n, sn, sc, q, i0, a0, b0, p0, k0, i1, a1, b1, p1, k1, y0, y1, y2, y3, y4, y5, t, dn, dd, fi, rv, vl, va, vw, vr, vs, vc, t2, tk, du, c2, wo, cm, g0, g1, rfl, rfl, hs, hn, hq, ht, hi0, hi1, zn, zc, za0, zb0, za1, zb1, hp0, hp1, hc2, hk1, hk2, hrv, hwo, hcm, hg0, hg1⟩ := hI
  cases h1 : inI xa 0 60 with
  | false =>
    exact SFF (C1 := WC rk s f n sn sc q i0 a0 b0 p0 k0 i1 a1 b1 p1 k1 y0 y1 y2 y3 y4 y5 t dn dd fi rv) (M1 := WM s f n sn sc q k0 k1 vl va vw vr vs vc t2 tk du c2 wo cm g0 g1) (t_tak_o1 5 rk xa xb (in_x h1 L0 L60)) (m_tak_o1 6 (sbu s) vl va vw vr vs vc q n xa xb h1) mC_0 (mC_0 (rk' := rk)) mM_38 (mM_38 (n' := n) (q' := q) (vl' := vl) (va' := va) (vw' := vw) (vr' := vr) (vs' := vs) (vc' := vc)) (CI_mk hs hn hq ht hi0 hi1 zn zc za0 zb0 za1 zb1 hp0 hp1 hc2 hk1 hk2 hrv hwo hcm hg0 hg1)
  | true =>
    cases h2 : inI xb 0 1 with
    | false =>
      exact SFF (C1 := WC rk s f n sn sc q i0 a0 b0 p0 k0 i1 a1 b1 p1 k1 y0 y1 y2 y3 y4 y5 t dn dd fi rv) (M1 := WM s f n sn sc q k0 k1 vl va vw vr vs vc t2 tk du c2 wo cm g0 g1) (t_tak_o2 5 rk xa xb (in_x h1 L0 L60) (in_x h2 L0 L1)) (m_tak_o2 6 (sbu s) vl va vw vr vs vc q n xa xb h1 h2) mC_0 (mC_0 (rk' := rk)) mM_38 (mM_38 (n' := n) (q' := q) (vl' := vl) (va' := va) (vw' := vw) (vr' := vr) (vs' := vs) (vc' := vc)) (CI_mk hs hn hq ht hi0 hi1 zn zc za0 zb0 za1 zb1 hp0 hp1 hc2 hk1 hk2 hrv hwo hcm hg0 hg1)
    | true =>
      obtain ⟨kt, kt1, kt2, rfl⟩ := in_nI h1 (a := 0) (b := 60) rfl rfl (by decide) (by decide)
      rcases in01 h2 with rfl | rfl
      · by_cases hw : wtR kt = -6
        · exact SFF (C1 := WC (max rk (kt + 1)) s f n sn sc q i0 a0 b0 p0 k0 i1 a1 b1 p1 k1 y0 y1 y2 y3 y4 y5 t dn dd fi (rvK rv rk (max rk (kt + 1)))) (M1 := WM s f n sn sc q k0 k1 vl va vw vr vs vc t2 tk du c2 (rvK wo 1 (kt + 1)) (cmF cm kt) g0 g1) (t_tak_0y 5 rk rv hk1 hk2 hrv kt (by omega) (in_x h1 L0 L60) hw) (m_tak_0y 6 (sbu s) vl va vw vr vs vc q n wo cm hwo hcm kt (by omega) h1 hw) mC_0_37 (mC_0_37 (rk' := max rk (kt + 1)) (rv' := rvK rv rk (max rk (kt + 1)))) mM_38_46t47 (mM_38_46t47 (n' := n) (q' := q) (vl' := vl) (va' := va) (vw' := vw) (vr' := vr) (vs' := vs) (vc' := vc) (wo' := rvK wo 1 (kt + 1)) (cm' := cmF cm kt)) (CI_mk hs hn hq ht hi0 hi1 zn zc za0 zb0 za1 zb1 hp0 hp1 hc2 (by omega) (by omega) (fun i hi => rvK_g hrv hi) (fun i hi => rvK_g hwo (by omega)) (cmF_z hcm kt (by omega)) hg0 hg1)
        · exact SFF (C1 := WC (max rk (kt + 1)) s f n sn sc q i0 a0 b0 p0 k0 i1 a1 b1 p1 k1 y0 y1 y2 y3 y4 y5 t dn dd fi (rvK rv rk (max rk (kt + 1)))) (M1 := WM s f n sn sc q k0 k1 vl va vw vr vs vc t2 tk du c2 (rvK wo 1 (kt + 1)) (cmF cm kt) g0 g1) (t_tak_0n 5 rk rv hk1 hk2 hrv kt (by omega) (in_x h1 L0 L60) hw) (m_tak_0n 6 (sbu s) vl va vw vr vs vc q n wo cm hwo hcm kt (by omega) h1 hw) mC_0_37 (mC_0_37 (rk' := max rk (kt + 1)) (rv' := rvK rv rk (max rk (kt + 1)))) mM_38_46t47 (mM_38_46t47 (n' := n) (q' := q) (vl' := vl) (va' := va) (vw' := vw) (vr' := vr) (vs' := vs) (vc' := vc) (wo' := rvK wo 1 (kt + 1)) (cm' := cmF cm kt)) (CI_mk hs hn hq ht hi0 hi1 zn zc za0 zb0 za1 zb1 hp0 hp1 hc2 (by omega) (by omega) (fun i hi => rvK_g hrv hi) (fun i hi => rvK_g hwo (by omega)) (cmF_z hcm kt (by omega)) hg0 hg1)
      · exact SFF (C1 := WC (max rk (kt + 1)) s f n sn sc q i0 a0 b0 p0 k0 i1 a1 b1 p1 k1 y0 y1 y2 y3 y4 y5 t dn dd fi (rvK rv rk (max rk (kt + 1)))) (M1 := WM s f n sn sc q k0 k1 vl va vw vr vs vc t2 tk du c2 (rvK wo 1 (kt + 1)) (cmF cm kt) g0 g1) (t_tak_1 5 rk rv hk1 hk2 hrv kt (by omega) (in_x h1 L0 L60)) (m_tak_1 6 (sbu s) vl va vw vr vs vc q n wo cm hwo hcm kt (by omega) h1) mC_0_37 (mC_0_37 (rk' := max rk (kt + 1)) (rv' := rvK rv rk (max rk (kt + 1)))) mM_38_46t47 (mM_38_46t47 (n' := n) (q' := q) (vl' := vl) (va' := va) (vw' := vw) (vr' := vr) (vs' := vs) (vc' := vc) (wo' := rvK wo 1 (kt + 1)) (cm' := cmF cm kt)) (CI_mk hs hn hq ht hi0 hi1 zn zc za0 zb0 za1 zb1 hp0 hp1 hc2 (by omega) (by omega) (fun i hi => rvK_g hrv hi) (fun i hi => rvK_g hwo (by omega)) (cmF_z hcm kt (by omega)) hg0 hg1)

set_option maxHeartbeats 4000000 in
set_option maxRecDepth 20000 in
theorem S_lean (xa xb xc xd : Int32) : STEPL YX6_lean YX7_lean [.ref 0, .int xa, .int xb, .int xc, .int xd, .null, .null, .null, .null, .null, .null] [.ref 38, .int xa, .int xb, .int xc, .int xd, .null, .null, .null, .null, .null] := by
  intro C M hI
  obtain ⟨rk, s, f, n, sn, sc, q, i0, a0, b0, p0, k0, i1, a1, b1, p1, k1, y0, y1, y2, y3, y4, y5, t, dn, dd, fi, rv, vl, va, vw, vr, vs, vc, t2, tk, du, c2, wo, cm, g0, g1, rfl, rfl, hs, hn, hq, ht, hi0, hi1, zn, zc, za0, zb0, za1, zb1, hp0, hp1, hc2, hk1, hk2, hrv, hwo, hcm, hg0, hg1⟩ := hI
  cases h1 : inI xa 0 8 with
  | false =>
    exact SFFL (C1 := WC rk s f n sn sc q i0 a0 b0 p0 k0 i1 a1 b1 p1 k1 y0 y1 y2 y3 y4 y5 t dn dd fi rv) (M1 := WM s f n sn sc q k0 k1 vl va vw vr vs vc t2 tk du c2 wo cm g0 g1) (t_lean_oN 5 rk xa xb xc xd (in_x h1 L0 L8)) (m_lean_oN 6 (sbu s) vl va vw vr vs vc q n xa xb xc xd h1) mC_0 (mC_0 (rk' := rk)) mM_38 (mM_38 (n' := n) (q' := q) (vl' := vl) (va' := va) (vw' := vw) (vr' := vr) (vs' := vs) (vc' := vc)) (CI_mk hs hn hq ht hi0 hi1 zn zc za0 zb0 za1 zb1 hp0 hp1 hc2 hk1 hk2 hrv hwo hcm hg0 hg1)
  | true =>
    by_cases hw : xc = 1
    · cases h2 : inI xb 1 10 with
      | false =>
        cases h3 : inI xb 0 10 with
        | false =>
          exact SFFL (C1 := WC rk s f n sn sc q i0 a0 b0 p0 k0 i1 a1 b1 p1 k1 y0 y1 y2 y3 y4 y5 t dn dd fi rv) (M1 := WM s f n sn sc q k0 k1 vl va vw vr vs vc t2 tk du c2 wo cm g0 g1) (t_lean_oT1 5 rk xa xb xc xd (in_x h1 L0 L8) hw (in_x h2 L1 L10)) (m_lean_oT 6 (sbu s) vl va vw vr vs vc q n xa xb xc xd h1 h3) mC_0 (mC_0 (rk' := rk)) mM_38 (mM_38 (n' := n) (q' := q) (vl' := vl) (va' := va) (vw' := vw) (vr' := vr) (vs' := vs) (vc' := vc)) (CI_mk hs hn hq ht hi0 hi1 zn zc za0 zb0 za1 zb1 hp0 hp1 hc2 hk1 hk2 hrv hwo hcm hg0 hg1)
        | true =>
          obtain ⟨kb, kb1, kb2, rfl⟩ := in_nI h3 (a := 0) (b := 10) rfl rfl (by decide) (by decide)
          have h0 : nI kb = 0 := by
            by_cases e : kb = 0
            · rw [e]; rfl
            · exact absurd h2 (by rw [show inI (nI kb) 1 10 = true from by simp only [inI, Bool.and_eq_true, decide_eq_true_eq]; exact ⟨nI_le (a := 1) (by omega) (by omega), nI_le (b := 10) (by omega) (by decide)⟩]; decide)
          exact SFFL (C1 := WC rk s f n sn sc q i0 a0 b0 p0 k0 i1 a1 b1 p1 k1 y0 y1 y2 y3 y4 y5 t dn dd fi rv) (M1 := WM s f n sn sc q k0 k1 vl va vw vr vs vc t2 tk du c2 wo cm g0 g1) (t_lean_oT1 5 rk xa (nI kb) xc xd (in_x h1 L0 L8) hw (in_x h2 L1 L10)) (m_lean_oZ 6 (sbu s) vl va vw vr vs vc q n xa (nI kb) xc xd h1 h3 (by rw [hw]; decide) hw h0) mC_0 (mC_0 (rk' := rk)) mM_38 (mM_38 (n' := n) (q' := q) (vl' := vl) (va' := va) (vw' := vw) (vr' := vr) (vs' := vs) (vc' := vc)) (CI_mk hs hn hq ht hi0 hi1 zn zc za0 zb0 za1 zb1 hp0 hp1 hc2 hk1 hk2 hrv hwo hcm hg0 hg1)
      | true =>
        obtain ⟨kb, kb1, kb2, rfl⟩ := in_nI h2 (a := 1) (b := 10) rfl rfl (by decide) (by decide)
        have h3 : inI (nI kb) 0 10 = true := by
          simp only [inI, Bool.and_eq_true, decide_eq_true_eq]
          exact ⟨nI_pos' (by omega), nI_le (b := 10) (by omega) (by decide)⟩
        have hn0 : ¬ nI kb = 0 := nI_ne0 (by omega) (by omega)
        cases h4 : inI xd 0 1 with
        | false =>
          exact SFFL (C1 := WC rk s f n sn sc q i0 a0 b0 p0 k0 i1 a1 b1 p1 k1 y0 y1 y2 y3 y4 y5 t dn dd fi rv) (M1 := WM s f n sn sc q k0 k1 vl va vw vr vs vc t2 tk du c2 wo cm g0 g1) (t_lean_oP1 5 rk xa (nI kb) xc xd (in_x h1 L0 L8) hw (in_x h2 L1 L10) (in_x (lo' := 0) (hi' := 1) (by rw [hw]; decide) L0 L1) (in_x h4 L0 L1)) (m_lean_oP1 6 (sbu s) vl va vw vr vs vc q n xa (nI kb) xc xd h1 h3 (by rw [hw]; decide) hw hn0 h4) mC_0 (mC_0 (rk' := rk)) mM_38 (mM_38 (n' := n) (q' := q) (vl' := vl) (va' := va) (vw' := vw) (vr' := vr) (vs' := vs) (vc' := vc)) (CI_mk hs hn hq ht hi0 hi1 zn zc za0 zb0 za1 zb1 hp0 hp1 hc2 hk1 hk2 hrv hwo hcm hg0 hg1)
        | true =>
          obtain ⟨ka, ka1, ka2, rfl⟩ := in_nI h1 (a := 0) (b := 8) rfl rfl (by decide) (by decide)
          subst hw
          rcases in01 h4 with rfl | rfl
          · exact SFFL (C1 := WC rk s f n sn sc q i0 a0 b0 p0 k0 i1 a1 b1 p1 k1 y0 y1 y2 y3 y4 y5 t dn dd fi rv) (M1 := WM s f n sn sc q k0 k1 vl va vw vr vs vc t2 tk du c2 wo cm g0 g1) (t_lean_10 5 rk ka kb (in_x h1 L0 L8) (in_x h2 L1 L10)) (m_lean_10 6 (sbu s) vl va vw vr vs vc q n ka kb kb1 kb2 h1 h3) mC_0 (mC_0 (rk' := rk)) mM_38 (mM_38 (n' := n) (q' := q) (vl' := vl) (va' := va) (vw' := vw) (vr' := vr) (vs' := vs) (vc' := vc)) (CI_mk hs hn hq ht hi0 hi1 zn zc za0 zb0 za1 zb1 hp0 hp1 hc2 hk1 hk2 hrv hwo hcm hg0 hg1)
          · exact SFFL (C1 := WC rk s f n sn sc q i0 a0 b0 p0 k0 i1 a1 b1 p1 k1 y0 y1 y2 y3 y4 y5 t dn dd fi rv) (M1 := WM s f n sn sc q k0 k1 vl va vw vr vs vc t2 tk du c2 wo cm g0 g1) (t_lean_11 5 rk ka kb (in_x h1 L0 L8) (in_x h2 L1 L10)) (m_lean_11 6 (sbu s) vl va vw vr vs vc q n ka kb kb1 kb2 h1 h3) mC_0 (mC_0 (rk' := rk)) mM_38 (mM_38 (n' := n) (q' := q) (vl' := vl) (va' := va) (vw' := vw) (vr' := vr) (vs' := vs) (vc' := vc)) (CI_mk hs hn hq ht hi0 hi1 zn zc za0 zb0 za1 zb1 hp0 hp1 hc2 hk1 hk2 hrv hwo hcm hg0 hg1)
    · cases h2 : inI xb 0 10 with
      | false =>
        exact SFFL (C1 := WC rk s f n sn sc q i0 a0 b0 p0 k0 i1 a1 b1 p1 k1 y0 y1 y2 y3 y4 y5 t dn dd fi rv) (M1 := WM s f n sn sc q k0 k1 vl va vw vr vs vc t2 tk du c2 wo cm g0 g1) (t_lean_oT0 5 rk xa xb xc xd (in_x h1 L0 L8) hw (in_x h2 L0 L10)) (m_lean_oT 6 (sbu s) vl va vw vr vs vc q n xa xb xc xd h1 h2) mC_0 (mC_0 (rk' := rk)) mM_38 (mM_38 (n' := n) (q' := q) (vl' := vl) (va' := va) (vw' := vw) (vr' := vr) (vs' := vs) (vc' := vc)) (CI_mk hs hn hq ht hi0 hi1 zn zc za0 zb0 za1 zb1 hp0 hp1 hc2 hk1 hk2 hrv hwo hcm hg0 hg1)
      | true =>
        cases h3 : inI xc 0 1 with
        | false =>
          exact SFFL (C1 := WC rk s f n sn sc q i0 a0 b0 p0 k0 i1 a1 b1 p1 k1 y0 y1 y2 y3 y4 y5 t dn dd fi rv) (M1 := WM s f n sn sc q k0 k1 vl va vw vr vs vc t2 tk du c2 wo cm g0 g1) (t_lean_oW 5 rk xa xb xc xd (in_x h1 L0 L8) hw (in_x h2 L0 L10) (in_x h3 L0 L1)) (m_lean_oW 6 (sbu s) vl va vw vr vs vc q n xa xb xc xd h1 h2 h3) mC_0 (mC_0 (rk' := rk)) mM_38 (mM_38 (n' := n) (q' := q) (vl' := vl) (va' := va) (vw' := vw) (vr' := vr) (vs' := vs) (vc' := vc)) (CI_mk hs hn hq ht hi0 hi1 zn zc za0 zb0 za1 zb1 hp0 hp1 hc2 hk1 hk2 hrv hwo hcm hg0 hg1)
        | true =>
          cases h4 : inI xd 0 1 with
          | false =>
            exact SFFL (C1 := WC rk s f n sn sc q i0 a0 b0 p0 k0 i1 a1 b1 p1 k1 y0 y1 y2 y3 y4 y5 t dn dd fi rv) (M1 := WM s f n sn sc q k0 k1 vl va vw vr vs vc t2 tk du c2 wo cm g0 g1) (t_lean_oP0 5 rk xa xb xc xd (in_x h1 L0 L8) hw (in_x h2 L0 L10) (in_x h3 L0 L1) (in_x h4 L0 L1)) (m_lean_oP0 6 (sbu s) vl va vw vr vs vc q n xa xb xc xd h1 h2 h3 hw h4) mC_0 (mC_0 (rk' := rk)) mM_38 (mM_38 (n' := n) (q' := q) (vl' := vl) (va' := va) (vw' := vw) (vr' := vr) (vs' := vs) (vc' := vc)) (CI_mk hs hn hq ht hi0 hi1 zn zc za0 zb0 za1 zb1 hp0 hp1 hc2 hk1 hk2 hrv hwo hcm hg0 hg1)
          | true =>
            obtain ⟨ka, ka1, ka2, rfl⟩ := in_nI h1 (a := 0) (b := 8) rfl rfl (by decide) (by decide)
            obtain ⟨kb, kb1, kb2, rfl⟩ := in_nI h2 (a := 0) (b := 10) rfl rfl (by decide) (by decide)
            obtain rfl : xc = 0 := (in01 h3).resolve_right hw
            rcases in01 h4 with rfl | rfl
            · exact SFFL (C1 := WC rk s f n sn sc q i0 a0 b0 p0 k0 i1 a1 b1 p1 k1 y0 y1 y2 y3 y4 y5 t dn dd fi rv) (M1 := WM s f n sn sc q k0 k1 vl va vw vr vs vc t2 tk du c2 wo cm g0 g1) (t_lean_00 5 rk ka kb ka2 kb2 (in_x h1 L0 L8) (in_x h2 L0 L10)) (m_lean_00 6 (sbu s) vl va vw vr vs vc q n ka kb ka2 kb2 h1 h2) mC_0 (mC_0 (rk' := rk)) mM_38 (mM_38 (n' := n) (q' := q) (vl' := vl) (va' := va) (vw' := vw) (vr' := vr) (vs' := vs) (vc' := vc)) (CI_mk hs hn hq ht hi0 hi1 zn zc za0 zb0 za1 zb1 hp0 hp1 hc2 hk1 hk2 hrv hwo hcm hg0 hg1)
            · exact SFFL (C1 := WC rk s f n sn sc q i0 a0 b0 p0 k0 i1 a1 b1 p1 k1 y0 y1 y2 y3 y4 y5 t dn dd fi rv) (M1 := WM s f n sn sc q k0 k1 vl va vw vr vs vc t2 tk du c2 wo cm g0 g1) (t_lean_01 5 rk ka kb ka2 kb2 (in_x h1 L0 L8) (in_x h2 L0 L10)) (m_lean_01 6 (sbu s) vl va vw vr vs vc q n ka kb ka2 kb2 h1 h2) mC_0 (mC_0 (rk' := rk)) mM_38 (mM_38 (n' := n) (q' := q) (vl' := vl) (va' := va) (vw' := vw) (vr' := vr) (vs' := vs) (vc' := vc)) (CI_mk hs hn hq ht hi0 hi1 zn zc za0 zb0 za1 zb1 hp0 hp1 hc2 hk1 hk2 hrv hwo hcm hg0 hg1)

set_option maxHeartbeats 4000000 in
set_option maxRecDepth 20000 in
theorem S_due (xa xb xc : Int32) (z : Int64) : STEP YX6_due YX7_due [.ref 0, .int xa, .long z, .null, .int xb, .int xc, .null] [.ref 38, .int xa, .long z, .null, .int xb, .int xc, .null, .null, .null, .null, .null, .null] := by
  intro C M hI
  obtain ⟨rk, s, f, n, sn, sc, q, i0, a0, b0, p0, k0, i1, a1, b1, p1, k1, y0, y1, y2, y3, y4, y5, t, dn, dd, fi, rv, vl, va, vw, vr, vs, vc, t2, tk, du, c2, wo, cm, g0, g1, rfl, rfl, hs, hn, hq, ht, hi0, hi1, zn, zc, za0, zb0, za1, zb1, hp0, hp1, hc2, hk1, hk2, hrv, hwo, hcm, hg0, hg1⟩ := hI
  cases h0 : inI xb 1 8 with
  | false =>
    exact SFF (C1 := WC rk s f n sn sc q i0 a0 b0 p0 k0 i1 a1 b1 p1 k1 y0 y1 y2 y3 y4 y5 t dn dd fi rv) (M1 := WM s f n sn sc q k0 k1 vl va vw vr vs vc t2 tk du c2 wo cm g0 g1) (t_due_o0 3 rk xa xb xc z (in_x h0 L1 L8)) (m_due_o1 5 (sbu s) vl va vw vr vs vc q n xa xb xc z h0) mC_0 (mC_0 (rk' := rk)) mM_38 (mM_38 (n' := n) (q' := q) (vl' := vl) (va' := va) (vw' := vw) (vr' := vr) (vs' := vs) (vc' := vc)) (CI_mk hs hn hq ht hi0 hi1 zn zc za0 zb0 za1 zb1 hp0 hp1 hc2 hk1 hk2 hrv hwo hcm hg0 hg1)
  | true =>
    cases h1 : inI xc 0 1 with
    | false =>
      by_cases hx0 : xa ≤ 0
      · exact SFF (C1 := WC rk s f n sn sc q i0 a0 b0 p0 k0 i1 a1 b1 p1 k1 y0 y1 y2 y3 y4 y5 t dn dd fi rv) (M1 := WM s f n sn sc q k0 k1 vl va vw vr vs vc t2 tk du c2 wo cm g0 g1) (t_due_o1 3 rk xa xb xc z (in_x h0 L1 L8) (in_x h1 L0 L1)) (m_due_o2 5 (sbu s) vl va vw vr vs vc q n xa xb xc z h0 hx0) mC_0 (mC_0 (rk' := rk)) mM_38 (mM_38 (n' := n) (q' := q) (vl' := vl) (va' := va) (vw' := vw) (vr' := vr) (vs' := vs) (vc' := vc)) (CI_mk hs hn hq ht hi0 hi1 zn zc za0 zb0 za1 zb1 hp0 hp1 hc2 hk1 hk2 hrv hwo hcm hg0 hg1)
      · by_cases hz0 : z < 0
        · exact SFF (C1 := WC rk s f n sn sc q i0 a0 b0 p0 k0 i1 a1 b1 p1 k1 y0 y1 y2 y3 y4 y5 t dn dd fi rv) (M1 := WM s f n sn sc q k0 k1 vl va vw vr vs vc t2 tk du c2 wo cm g0 g1) (t_due_o1 3 rk xa xb xc z (in_x h0 L1 L8) (in_x h1 L0 L1)) (m_due_o3 5 (sbu s) vl va vw vr vs vc q n xa xb xc z h0 hx0 hz0) mC_0 (mC_0 (rk' := rk)) mM_38 (mM_38 (n' := n) (q' := q) (vl' := vl) (va' := va) (vw' := vw) (vr' := vr) (vs' := vs) (vc' := vc)) (CI_mk hs hn hq ht hi0 hi1 zn zc za0 zb0 za1 zb1 hp0 hp1 hc2 hk1 hk2 hrv hwo hcm hg0 hg1)
        · exact SFF (C1 := WC rk s f n sn sc q i0 a0 b0 p0 k0 i1 a1 b1 p1 k1 y0 y1 y2 y3 y4 y5 t dn dd fi rv) (M1 := WM s f n sn sc q k0 k1 vl va vw vr vs vc t2 tk du c2 wo cm g0 g1) (t_due_o1 3 rk xa xb xc z (in_x h0 L1 L8) (in_x h1 L0 L1)) (m_due_o4 5 (sbu s) vl va vw vr vs vc q n xa xb xc z h0 hx0 hz0 h1) mC_0 (mC_0 (rk' := rk)) mM_38 (mM_38 (n' := n) (q' := q) (vl' := vl) (va' := va) (vw' := vw) (vr' := vr) (vs' := vs) (vc' := vc)) (CI_mk hs hn hq ht hi0 hi1 zn zc za0 zb0 za1 zb1 hp0 hp1 hc2 hk1 hk2 hrv hwo hcm hg0 hg1)
    | true =>
      obtain ⟨kn, kn1, kn2, rfl⟩ := in_nI h0 (a := 1) (b := 8) rfl rfl (by decide) (by decide)
      obtain ⟨m, rfl⟩ : ∃ m, kn = m + 1 := ⟨kn - 1, by omega⟩
      cases hr : (rn (m + 1) xa dn).1 with
      | false =>
        by_cases hx0 : xa ≤ 0
        · exact SFF (C1 := WC rk s f n sn sc q i0 a0 b0 p0 k0 i1 a1 b1 p1 k1 y0 y1 y2 y3 y4 y5 t ((rn (m + 1) xa dn).2) dd fi rv) (M1 := WM s f n sn sc q k0 k1 vl va vw vr vs vc t2 tk du c2 wo cm g0 g1) (t_due_n 3 rk dn dd xa z (m + 1) (by omega) xc (in_x h0 L1 L8) (in_x h1 L0 L1) hr) (m_due_o2 5 (sbu s) vl va vw vr vs vc q n xa (nI (m + 1)) xc z h0 hx0) mC_0_31t33 (mC_0_31t33 (rk' := rk) (dn' := (rn (m + 1) xa dn).2) (dd' := dd)) mM_38 (mM_38 (n' := n) (q' := q) (vl' := vl) (va' := va) (vw' := vw) (vr' := vr) (vs' := vs) (vc' := vc)) (CI_mk hs hn hq ht hi0 hi1 zn zc za0 zb0 za1 zb1 hp0 hp1 hc2 hk1 hk2 hrv hwo hcm hg0 hg1)
        · by_cases hz0 : z < 0
          · exact SFF (C1 := WC rk s f n sn sc q i0 a0 b0 p0 k0 i1 a1 b1 p1 k1 y0 y1 y2 y3 y4 y5 t ((rn (m + 1) xa dn).2) dd fi rv) (M1 := WM s f n sn sc q k0 k1 vl va vw vr vs vc t2 tk du c2 wo cm g0 g1) (t_due_n 3 rk dn dd xa z (m + 1) (by omega) xc (in_x h0 L1 L8) (in_x h1 L0 L1) hr) (m_due_o3 5 (sbu s) vl va vw vr vs vc q n xa (nI (m + 1)) xc z h0 hx0 hz0) mC_0_31t33 (mC_0_31t33 (rk' := rk) (dn' := (rn (m + 1) xa dn).2) (dd' := dd)) mM_38 (mM_38 (n' := n) (q' := q) (vl' := vl) (va' := va) (vw' := vw) (vr' := vr) (vs' := vs) (vc' := vc)) (CI_mk hs hn hq ht hi0 hi1 zn zc za0 zb0 za1 zb1 hp0 hp1 hc2 hk1 hk2 hrv hwo hcm hg0 hg1)
          · exact SFR (C1 := WC rk s f n sn sc q i0 a0 b0 p0 k0 i1 a1 b1 p1 k1 y0 y1 y2 y3 y4 y5 t ((rn (m + 1) xa dn).2) dd fi rv) (t_due_n 3 rk dn dd xa z (m + 1) (by omega) xc (in_x h0 L1 L8) (in_x h1 L0 L1) hr) (m_due_dg 5 (sbu s) vl va vw vr vs vc q n tk du xa xc z (m + 1) (by omega) h0 hx0 hz0 h1 (Or.inl (by rw [rn_1 _ _ _ dn]; exact hr))) mC_0_31t33 (mC_0_31t33 (rk' := rk) (dn' := (rn (m + 1) xa dn).2) (dd' := dd)) mM_38_43t44 (WC_klt _ _ _ _ _ _ _ _ _ _ _ _ _ _ _ _ _ _ _ _ _ _ _ _ _ _ _ _) (fun v Mx hx => by
              obtain ⟨f', g', rfl, rfl⟩ := hx
              exact ⟨rfl, WM s f n sn sc q k0 k1 vl va vw vr vs vc t2 f' g' c2 wo cm g0 g1, (mM_38_43t44 (n' := n) (q' := q) (vl' := vl) (va' := va) (vw' := vw) (vr' := vr) (vs' := vs) (vc' := vc) (tk' := f') (du' := g')), CI_mk hs hn hq ht hi0 hi1 zn zc za0 zb0 za1 zb1 hp0 hp1 hc2 hk1 hk2 hrv hwo hcm hg0 hg1⟩)
      | true =>
        have hx0 : ¬ xa ≤ 0 := fun e => by rw [rn_neg e] at hr; cases hr
        by_cases hz0 : z < 0
        · exact SFF (C1 := WC rk s f n sn sc q i0 a0 b0 p0 k0 i1 a1 b1 p1 k1 y0 y1 y2 y3 y4 y5 t ((rn (m + 1) xa dn).2) dd fi rv) (M1 := WM s f n sn sc q k0 k1 vl va vw vr vs vc t2 tk du c2 wo cm g0 g1) (t_due_dn 3 rk dn dd xa z (m + 1) (by omega) xc (in_x h0 L1 L8) (in_x h1 L0 L1) hr (Int64.not_le.mpr hz0)) (m_due_o3 5 (sbu s) vl va vw vr vs vc q n xa (nI (m + 1)) xc z h0 hx0 hz0) mC_0_31t33 (mC_0_31t33 (rk' := rk) (dn' := (rn (m + 1) xa dn).2) (dd' := dd)) mM_38 (mM_38 (n' := n) (q' := q) (vl' := vl) (va' := va) (vw' := vw) (vr' := vr) (vs' := vs) (vc' := vc)) (CI_mk hs hn hq ht hi0 hi1 zn zc za0 zb0 za1 zb1 hp0 hp1 hc2 hk1 hk2 hrv hwo hcm hg0 hg1)
        · have hz : 0 ≤ z := Int64.not_lt.mp hz0
          cases hd : (rd (m + 1) z dd).1 with
          | false =>
            exact SFR (C1 := WC rk s f n sn sc q i0 a0 b0 p0 k0 i1 a1 b1 p1 k1 y0 y1 y2 y3 y4 y5 t ((rn (m + 1) xa dn).2) ((rd (m + 1) z dd).2) fi rv) (t_due_d 3 rk dn dd xa z (m + 1) (by omega) xc (in_x h0 L1 L8) (in_x h1 L0 L1) hr hz hd) (m_due_dg 5 (sbu s) vl va vw vr vs vc q n tk du xa xc z (m + 1) (by omega) h0 hx0 hz0 h1 (Or.inr (by rw [rd_1 _ _ _ dd]; exact hd))) mC_0_31t33 (mC_0_31t33 (rk' := rk) (dn' := (rn (m + 1) xa dn).2) (dd' := (rd (m + 1) z dd).2)) mM_38_43t44 (WC_klt _ _ _ _ _ _ _ _ _ _ _ _ _ _ _ _ _ _ _ _ _ _ _ _ _ _ _ _) (fun v Mx hx => by
              obtain ⟨f', g', rfl, rfl⟩ := hx
              exact ⟨rfl, WM s f n sn sc q k0 k1 vl va vw vr vs vc t2 f' g' c2 wo cm g0 g1, (mM_38_43t44 (n' := n) (q' := q) (vl' := vl) (va' := va) (vw' := vw) (vr' := vr) (vs' := vs) (vc' := vc) (tk' := f') (du' := g')), CI_mk hs hn hq ht hi0 hi1 zn zc za0 zb0 za1 zb1 hp0 hp1 hc2 hk1 hk2 hrv hwo hcm hg0 hg1⟩)
          | true =>
            obtain ⟨nv, hnv⟩ := pickN (rn_d (m + 1) xa dn hr)
            obtain ⟨dv, hdv⟩ := pickN (rd_d (m + 1) z hz)
            have hr2 : (rn (m + 1) xa tk).1 = true := by rw [rn_1 _ _ _ dn]; exact hr
            have hd2 : (rd (m + 1) z du).1 = true := by rw [rd_1 _ _ _ dd]; exact hd
            rcases in01 h1 with rfl | rfl
            · exact SFF (C1 := WC rk s f n sn sc q i0 a0 b0 p0 k0 i1 a1 b1 p1 k1 y0 y1 y2 y3 y4 y5 t ((rn (m + 1) xa dn).2) ((rd (m + 1) z dd).2) fi rv) (M1 := WM s f n sn sc q k0 k1 vl va vw vr vs vc t2 ((rn (m + 1) xa tk).2) ((rd (m + 1) z du).2) c2 wo cm g0 g1) (t_due_0 3 rk dn dd xa z (m + 1) (by omega) (in_x h0 L1 L8) hr hz hd dv (fun j hj => ⟨(hdv j hj).2 dd, (hdv j hj).1⟩) nv (fun j hj => ⟨(hnv j hj).2 dn, (hnv j hj).1⟩)) (m_due_0 5 (sbu s) vl va vw vr vs vc q n tk du xa z (m + 1) (by omega) h0 (Int32.not_le.mp hx0) hr2 hz hd2 dv (fun j hj => ⟨(hdv j hj).2 du, (hdv j hj).1⟩) nv (fun j hj => ⟨(hnv j hj).2 tk, (hnv j hj).1⟩)) mC_0_31t33 (mC_0_31t33 (rk' := rk) (dn' := (rn (m + 1) xa dn).2) (dd' := (rd (m + 1) z dd).2)) mM_38_43t44 (mM_38_43t44 (n' := n) (q' := q) (vl' := vl) (va' := va) (vw' := vw) (vr' := vr) (vs' := vs) (vc' := vc) (tk' := (rn (m + 1) xa tk).2) (du' := (rd (m + 1) z du).2)) (CI_mk hs hn hq ht hi0 hi1 zn zc za0 zb0 za1 zb1 hp0 hp1 hc2 hk1 hk2 hrv hwo hcm hg0 hg1)
            · exact SFF (C1 := WC rk s f n sn sc q i0 a0 b0 p0 k0 i1 a1 b1 p1 k1 y0 y1 y2 y3 y4 y5 t ((rn (m + 1) xa dn).2) ((rd (m + 1) z dd).2) fi rv) (M1 := WM s f n sn sc q k0 k1 vl va vw vr vs vc t2 ((rn (m + 1) xa tk).2) ((rd (m + 1) z du).2) c2 wo cm g0 g1) (t_due_1 3 rk dn dd xa z (m + 1) (by omega) (in_x h0 L1 L8) hr hz hd dv (fun j hj => ⟨(hdv j hj).2 dd, (hdv j hj).1⟩) nv (fun j hj => ⟨(hnv j hj).2 dn, (hnv j hj).1⟩)) (m_due_1 5 (sbu s) vl va vw vr vs vc q n tk du xa z (m + 1) (by omega) h0 (Int32.not_le.mp hx0) hr2 hz hd2 dv (fun j hj => ⟨(hdv j hj).2 du, (hdv j hj).1⟩) nv (fun j hj => ⟨(hnv j hj).2 tk, (hnv j hj).1⟩)) mC_0_31t33 (mC_0_31t33 (rk' := rk) (dn' := (rn (m + 1) xa dn).2) (dd' := (rd (m + 1) z dd).2)) mM_38_43t44 (mM_38_43t44 (n' := n) (q' := q) (vl' := vl) (va' := va) (vw' := vw) (vr' := vr) (vs' := vs) (vc' := vc) (tk' := (rn (m + 1) xa tk).2) (du' := (rd (m + 1) z du).2)) (CI_mk hs hn hq ht hi0 hi1 zn zc za0 zb0 za1 zb1 hp0 hp1 hc2 hk1 hk2 hrv hwo hcm hg0 hg1)
