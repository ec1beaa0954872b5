/-! the law -/
abbrev YL (L : Nat) (xs : Nat → Int32) : MY := (RL, cL_law, 4, some .boolean, some (L, xs))
theorem E_sldN {Y : MY} {d pc : Nat} {l st : List Value} {hp : HP} {Q : Option Value → HP → Prop} {L j : Nat} {xs : Nat → Int32} (hd : decode Y.2.1 pc = .ok (.iaload, 1)) (hsc : Y.2.2.2.2 = some (L, xs)) (hj : j < L) (hL : L < 2 ^ 31) (kk : E Y d (pc + 1) l (.int (xs j) :: st) hp Q) : E Y d pc l (.int (nI j) :: .ref 50 :: st) hp Q := by
  refine E_sld hd hsc (vp_in_nI hj hL) ?_
  rw [nI_clamp (by omega)]
  exact kk
theorem E_isI {Y : MY} {d pc : Nat} {l st : List Value} {hp : HP} {Q : Option Value → HP → Prop} (h1 : ¬ Y.2.2.2.1 = some .long) (h2 : ¬ Y.2.2.2.1 = none) (h : E Y d pc l st hp Q) : E Y d pc l st hp (fun v h' => Q v h' ∧ ∃ x : Int32, v = some (.int x)) := by
  intro p lch e R s m args below meth c H locs cells slots ad D cI cZ A H0 Qm ls hC hW hl hR
  refine h p lch e R s m args below meth c H locs cells slots ad D cI cZ A H0 Qm ls hC hW hl (fun v hp' H' locs' pc' ls' hq hw hrt => hR v hp' H' locs' pc' ls' ⟨hq, ?_⟩ hw hrt)
  rcases hrt with ⟨x, ty, rfl, -⟩ | ⟨x, -, -, e⟩ | ⟨-, -, e⟩
  · exact ⟨x, rfl⟩
  · exact absurd e h1
  · exact absurd e h2
theorem CI_0 {C M : List (Nat × AC)} (h : CI C M) : ∃ fs : List Value, ∀ hp : HP, hov hp C 0 = .inr (6, fs) := by
  obtain ⟨_, _, _, _, _, _, _, _, _, _, _, _, _, _, _, _, _, _, _, _, _, _, _, _, _, _, _, _, _, _, _, _, _, _, _, _, _, _, _, _, _, _, rfl, -⟩ := h
  exact ⟨_, fun hp => rfl⟩
theorem CI_38 {C M : List (Nat × AC)} (h : CI C M) : ∃ fs : List Value, ∀ hp : HP, hov hp M 38 = .inr (7, fs) := by
  obtain ⟨_, _, _, _, _, _, _, _, _, _, _, _, _, _, _, _, _, _, _, _, _, _, _, _, _, _, _, _, _, _, _, _, _, _, _, _, _, _, _, _, _, _, -, rfl, -⟩ := h
  exact ⟨_, fun hp => rfl⟩
theorem and31 (x : Int32) : ∃ k : Nat, k < 32 ∧ x &&& 31 = nI k := by
  refine ⟨(x &&& 31).toBitVec.toNat, ?_, ?_⟩
  · rw [Int32.toBitVec_and, BitVec.toNat_and]
    exact Nat.lt_of_le_of_lt Nat.and_le_right (by decide)
  · apply Int32.toBitVec_inj.mp
    show (x &&& 31).toBitVec = BitVec.ofNat 32 (x &&& 31).toBitVec.toNat
    apply BitVec.eq_of_toNat_eq
    rw [BitVec.toNat_ofNat]
    exact (Nat.mod_eq_of_lt (BitVec.isLt _)).symm
theorem lcmp_self (x : Int64) : lg_cmp x x = 0 := by
  simp [lg_cmp]
set_option maxHeartbeats 4000000 in
set_option maxRecDepth 20000 in
theorem law_c0 (L : Nat) (xs : Nat → Int32) (hL : L < 2 ^ 31) (i : Nat) (hi : i + 7 ≤ L) (hp : HP) (C M : List (Nat × AC)) (hI : CI C M) (Q : Option Value → HP → Prop) (K : ∀ C1 M1, CI C1 M1 → E (YL L xs) 8 872 [.ref 50, .ref 0, .ref 38, .int (nI i)] [] (hov (hov hp M1) C1) Q) : E (YL L xs) 8 140 [.ref 50, .ref 0, .ref 38, .int (nI i)] [] (hov (hov hp M) C) Q := by
  obtain ⟨r, hr⟩ := S_heap (xs (i + 1)) (xs (i + 2)) (xs (i + 3)) (xs (i + 4))  C M hI
  obtain ⟨fs0, hf0⟩ := CI_0 hI
  obtain ⟨fs1, hf1⟩ := CI_38 hI
  refine E_aload_n dL_law_140 rfl ?_
  refine E_aload_n dL_law_141 rfl ?_
  refine E_iload_n dL_law_142 rfl ?_
  refine E_iconst (v := 1) dL_law_143 (by decide) ?_
  refine E_iadd dL_law_144 ?_
  refine E_eqi (y := nI (i + 1)) (nI_add i 1) ?_
  refine E_sldN (j := i + 1) dL_law_145 rfl (by omega) hL ?_
  refine E_aload_n dL_law_146 rfl ?_
  refine E_iload_n dL_law_147 rfl ?_
  refine E_iconst (v := 2) dL_law_148 (by decide) ?_
  refine E_iadd dL_law_149 ?_
  refine E_eqi (y := nI (i + 2)) (nI_add i 2) ?_
  refine E_sldN (j := i + 2) dL_law_150 rfl (by omega) hL ?_
  refine E_aload_n dL_law_151 rfl ?_
  refine E_iload_n dL_law_152 rfl ?_
  refine E_iconst (v := 3) dL_law_153 (by decide) ?_
  refine E_iadd dL_law_154 ?_
  refine E_eqi (y := nI (i + 3)) (nI_add i 3) ?_
  refine E_sldN (j := i + 3) dL_law_155 rfl (by omega) hL ?_
  refine E_aload_n dL_law_156 rfl ?_
  refine E_iload_n dL_law_157 rfl ?_
  refine E_iconst (v := 4) dL_law_158 (by decide) ?_
  refine E_iadd dL_law_159 ?_
  refine E_eqi (y := nI (i + 4)) (nI_add i 4) ?_
  refine E_sldN (j := i + 4) dL_law_160 rfl (by omega) hL ?_
  refine E_callV (As := [.int (xs (i + 1)), .int (xs (i + 2)), .int (xs (i + 3)), .int (xs (i + 4))]) (l' := [.ref 0, .int (xs (i + 1)), .int (xs (i + 2)), .int (xs (i + 3)), .int (xs (i + 4)), .null, .null]) (st := []) (a := 0) dL_law_161 kL_13 iX6_heap vX6_heap (by decide) (hf0 _) rfl MX6_heap rfl rfl (Nat.le_of_ble_eq_true rfl) (E_isI (by decide) (by decide) (hr (hov hp M))) (Nat.le_of_ble_eq_true rfl) (fun v h hq => ?_)
  obtain ⟨⟨hv, C1, rfl, hk1, hm⟩, x, hx⟩ := hq
  subst hv
  obtain rfl : r = .int x := Option.some.inj hx
  rw [hov_swap hk1 (CI_kge hI)]
  show E _ _ 164 [.ref 50, .ref 0, .ref 38, .int (nI i)] [.int x] (hov (hov hp C1) M) _
  refine E_aload_n dL_law_164 rfl ?_
  refine E_aload_n dL_law_165 rfl ?_
  refine E_iload_n dL_law_166 rfl ?_
  refine E_iconst (v := 1) dL_law_167 (by decide) ?_
  refine E_iadd dL_law_168 ?_
  refine E_eqi (y := nI (i + 1)) (nI_add i 1) ?_
  refine E_sldN (j := i + 1) dL_law_169 rfl (by omega) hL ?_
  refine E_aload_n dL_law_170 rfl ?_
  refine E_iload_n dL_law_171 rfl ?_
  refine E_iconst (v := 2) dL_law_172 (by decide) ?_
  refine E_iadd dL_law_173 ?_
  refine E_eqi (y := nI (i + 2)) (nI_add i 2) ?_
  refine E_sldN (j := i + 2) dL_law_174 rfl (by omega) hL ?_
  refine E_aload_n dL_law_175 rfl ?_
  refine E_iload_n dL_law_176 rfl ?_
  refine E_iconst (v := 3) dL_law_177 (by decide) ?_
  refine E_iadd dL_law_178 ?_
  refine E_eqi (y := nI (i + 3)) (nI_add i 3) ?_
  refine E_sldN (j := i + 3) dL_law_179 rfl (by omega) hL ?_
  refine E_aload_n dL_law_180 rfl ?_
  refine E_iload_n dL_law_181 rfl ?_
  refine E_iconst (v := 4) dL_law_182 (by decide) ?_
  refine E_iadd dL_law_183 ?_
  refine E_eqi (y := nI (i + 4)) (nI_add i 4) ?_
  refine E_sldN (j := i + 4) dL_law_184 rfl (by omega) hL ?_
  refine E_callV (As := [.int (xs (i + 1)), .int (xs (i + 2)), .int (xs (i + 3)), .int (xs (i + 4))]) (l' := [.ref 38, .int (xs (i + 1)), .int (xs (i + 2)), .int (xs (i + 3)), .int (xs (i + 4)), .null]) (st := [.int x]) (a := 38) dL_law_185 kL_17 iX7_heap vX7_heap (by decide) (hf1 _) rfl MX7_heap rfl rfl (Nat.le_of_ble_eq_true rfl) (hm (hov hp C1)) (Nat.le_of_ble_eq_true rfl) (fun v h hq => ?_)
  obtain ⟨hv, M1, rfl, hI1⟩ := hq
  subst hv
  rw [← hov_swap (CI_klt hI1) (CI_kge hI1)]
  show E _ _ 188 [.ref 50, .ref 0, .ref 38, .int (nI i)] [.int x, .int x] (hov (hov hp M1) C1) _
  exact E_icmp_eq (tgt := 872) dL_law_188 (by decide) (fun _ => K C1 M1 hI1) (fun c => absurd rfl c)

set_option maxHeartbeats 4000000 in
set_option maxRecDepth 20000 in
theorem law_c1 (L : Nat) (xs : Nat → Int32) (hL : L < 2 ^ 31) (i : Nat) (hi : i + 7 ≤ L) (hp : HP) (C M : List (Nat × AC)) (hI : CI C M) (Q : Option Value → HP → Prop) (K : ∀ C1 M1, CI C1 M1 → E (YL L xs) 8 872 [.ref 50, .ref 0, .ref 38, .int (nI i)] [] (hov (hov hp M1) C1) Q) : E (YL L xs) 8 193 [.ref 50, .ref 0, .ref 38, .int (nI i)] [] (hov (hov hp M) C) Q := by
  obtain ⟨r, hr⟩ := S_burn (xs (i + 1))  C M hI
  obtain ⟨fs0, hf0⟩ := CI_0 hI
  obtain ⟨fs1, hf1⟩ := CI_38 hI
  refine E_aload_n dL_law_193 rfl ?_
  refine E_aload_n dL_law_194 rfl ?_
  refine E_iload_n dL_law_195 rfl ?_
  refine E_iconst (v := 1) dL_law_196 (by decide) ?_
  refine E_iadd dL_law_197 ?_
  refine E_eqi (y := nI (i + 1)) (nI_add i 1) ?_
  refine E_sldN (j := i + 1) dL_law_198 rfl (by omega) hL ?_
  refine E_callV (As := [.int (xs (i + 1))]) (l' := [.ref 0, .int (xs (i + 1)), .null]) (st := []) (a := 0) dL_law_199 kL_18 iX6_burners vX6_burners (by decide) (hf0 _) rfl MX6_burners rfl rfl (Nat.le_of_ble_eq_true rfl) (E_isI (by decide) (by decide) (hr (hov hp M))) (Nat.le_of_ble_eq_true rfl) (fun v h hq => ?_)
  obtain ⟨⟨hv, C1, rfl, hk1, hm⟩, x, hx⟩ := hq
  subst hv
  obtain rfl : r = .int x := Option.some.inj hx
  rw [hov_swap hk1 (CI_kge hI)]
  show E _ _ 202 [.ref 50, .ref 0, .ref 38, .int (nI i)] [.int x] (hov (hov hp C1) M) _
  refine E_aload_n dL_law_202 rfl ?_
  refine E_aload_n dL_law_203 rfl ?_
  refine E_iload_n dL_law_204 rfl ?_
  refine E_iconst (v := 1) dL_law_205 (by decide) ?_
  refine E_iadd dL_law_206 ?_
  refine E_eqi (y := nI (i + 1)) (nI_add i 1) ?_
  refine E_sldN (j := i + 1) dL_law_207 rfl (by omega) hL ?_
  refine E_callV (As := [.int (xs (i + 1))]) (l' := [.ref 38, .int (xs (i + 1)), .null]) (st := [.int x]) (a := 38) dL_law_208 kL_22 iX7_burners vX7_burners (by decide) (hf1 _) rfl MX7_burners rfl rfl (Nat.le_of_ble_eq_true rfl) (hm (hov hp C1)) (Nat.le_of_ble_eq_true rfl) (fun v h hq => ?_)
  obtain ⟨hv, M1, rfl, hI1⟩ := hq
  subst hv
  rw [← hov_swap (CI_klt hI1) (CI_kge hI1)]
  show E _ _ 211 [.ref 50, .ref 0, .ref 38, .int (nI i)] [.int x, .int x] (hov (hov hp M1) C1) _
  exact E_icmp_eq (tgt := 872) dL_law_211 (by decide) (fun _ => K C1 M1 hI1) (fun c => absurd rfl c)

set_option maxHeartbeats 4000000 in
set_option maxRecDepth 20000 in
theorem law_c2 (L : Nat) (xs : Nat → Int32) (hL : L < 2 ^ 31) (i : Nat) (hi : i + 7 ≤ L) (hp : HP) (C M : List (Nat × AC)) (hI : CI C M) (Q : Option Value → HP → Prop) (K : ∀ C1 M1, CI C1 M1 → E (YL L xs) 8 872 [.ref 50, .ref 0, .ref 38, .int (nI i)] [] (hov (hov hp M1) C1) Q) : E (YL L xs) 8 216 [.ref 50, .ref 0, .ref 38, .int (nI i)] [] (hov (hov hp M) C) Q := by
  obtain ⟨r, hr⟩ := S_say (xs (i + 1))  C M hI
  obtain ⟨fs0, hf0⟩ := CI_0 hI
  obtain ⟨fs1, hf1⟩ := CI_38 hI
  refine E_aload_n dL_law_216 rfl ?_
  refine E_aload_n dL_law_217 rfl ?_
  refine E_iload_n dL_law_218 rfl ?_
  refine E_iconst (v := 1) dL_law_219 (by decide) ?_
  refine E_iadd dL_law_220 ?_
  refine E_eqi (y := nI (i + 1)) (nI_add i 1) ?_
  refine E_sldN (j := i + 1) dL_law_221 rfl (by omega) hL ?_
  refine E_callV (As := [.int (xs (i + 1))]) (l' := [.ref 0, .int (xs (i + 1))]) (st := []) (a := 0) dL_law_222 kL_23 iX6_say vX6_say (by decide) (hf0 _) rfl MX6_say rfl rfl (Nat.le_of_ble_eq_true rfl) (E_isI (by decide) (by decide) (hr (hov hp M))) (Nat.le_of_ble_eq_true rfl) (fun v h hq => ?_)
  obtain ⟨⟨hv, C1, rfl, hk1, hm⟩, x, hx⟩ := hq
  subst hv
  obtain rfl : r = .int x := Option.some.inj hx
  rw [hov_swap hk1 (CI_kge hI)]
  show E _ _ 225 [.ref 50, .ref 0, .ref 38, .int (nI i)] [.int x] (hov (hov hp C1) M) _
  refine E_aload_n dL_law_225 rfl ?_
  refine E_aload_n dL_law_226 rfl ?_
  refine E_iload_n dL_law_227 rfl ?_
  refine E_iconst (v := 1) dL_law_228 (by decide) ?_
  refine E_iadd dL_law_229 ?_
  refine E_eqi (y := nI (i + 1)) (nI_add i 1) ?_
  refine E_sldN (j := i + 1) dL_law_230 rfl (by omega) hL ?_
  refine E_callV (As := [.int (xs (i + 1))]) (l' := [.ref 38, .int (xs (i + 1))]) (st := [.int x]) (a := 38) dL_law_231 kL_26 iX7_say vX7_say (by decide) (hf1 _) rfl MX7_say rfl rfl (Nat.le_of_ble_eq_true rfl) (hm (hov hp C1)) (Nat.le_of_ble_eq_true rfl) (fun v h hq => ?_)
  obtain ⟨hv, M1, rfl, hI1⟩ := hq
  subst hv
  rw [← hov_swap (CI_klt hI1) (CI_kge hI1)]
  show E _ _ 234 [.ref 50, .ref 0, .ref 38, .int (nI i)] [.int x, .int x] (hov (hov hp M1) C1) _
  exact E_icmp_eq (tgt := 872) dL_law_234 (by decide) (fun _ => K C1 M1 hI1) (fun c => absurd rfl c)

set_option maxHeartbeats 4000000 in
set_option maxRecDepth 20000 in
theorem law_c3 (L : Nat) (xs : Nat → Int32) (hL : L < 2 ^ 31) (i : Nat) (hi : i + 7 ≤ L) (hp : HP) (C M : List (Nat × AC)) (hI : CI C M) (Q : Option Value → HP → Prop) (K : ∀ C1 M1, CI C1 M1 → E (YL L xs) 8 872 [.ref 50, .ref 0, .ref 38, .int (nI i)] [] (hov (hov hp M1) C1) Q) : E (YL L xs) 8 239 [.ref 50, .ref 0, .ref 38, .int (nI i)] [] (hov (hov hp M) C) Q := by
  obtain ⟨r, hr⟩ := S_wipe   C M hI
  obtain ⟨fs0, hf0⟩ := CI_0 hI
  obtain ⟨fs1, hf1⟩ := CI_38 hI
  refine E_aload_n dL_law_239 rfl ?_
  refine E_callV (As := []) (l' := [.ref 0, .null]) (st := []) (a := 0) dL_law_240 kL_27 iX6_wipe vX6_wipe (by decide) (hf0 _) rfl MX6_wipe rfl rfl (Nat.le_of_ble_eq_true rfl) (E_isI (by decide) (by decide) (hr (hov hp M))) (Nat.le_of_ble_eq_true rfl) (fun v h hq => ?_)
  obtain ⟨⟨hv, C1, rfl, hk1, hm⟩, x, hx⟩ := hq
  subst hv
  obtain rfl : r = .int x := Option.some.inj hx
  rw [hov_swap hk1 (CI_kge hI)]
  show E _ _ 243 [.ref 50, .ref 0, .ref 38, .int (nI i)] [.int x] (hov (hov hp C1) M) _
  refine E_aload_n dL_law_243 rfl ?_
  refine E_callV (As := []) (l' := [.ref 38, .null]) (st := [.int x]) (a := 38) dL_law_244 kL_31 iX7_wipe vX7_wipe (by decide) (hf1 _) rfl MX7_wipe rfl rfl (Nat.le_of_ble_eq_true rfl) (hm (hov hp C1)) (Nat.le_of_ble_eq_true rfl) (fun v h hq => ?_)
  obtain ⟨hv, M1, rfl, hI1⟩ := hq
  subst hv
  rw [← hov_swap (CI_klt hI1) (CI_kge hI1)]
  show E _ _ 247 [.ref 50, .ref 0, .ref 38, .int (nI i)] [.int x, .int x] (hov (hov hp M1) C1) _
  exact E_icmp_eq (tgt := 872) dL_law_247 (by decide) (fun _ => K C1 M1 hI1) (fun c => absurd rfl c)

set_option maxHeartbeats 4000000 in
set_option maxRecDepth 20000 in
theorem law_c4 (L : Nat) (xs : Nat → Int32) (hL : L < 2 ^ 31) (i : Nat) (hi : i + 7 ≤ L) (hp : HP) (C M : List (Nat × AC)) (hI : CI C M) (Q : Option Value → HP → Prop) (K : ∀ C1 M1, CI C1 M1 → E (YL L xs) 8 872 [.ref 50, .ref 0, .ref 38, .int (nI i)] [] (hov (hov hp M1) C1) Q) : E (YL L xs) 8 252 [.ref 50, .ref 0, .ref 38, .int (nI i)] [] (hov (hov hp M) C) Q := by
  obtain ⟨r, hr⟩ := S_fault   C M hI
  obtain ⟨fs0, hf0⟩ := CI_0 hI
  obtain ⟨fs1, hf1⟩ := CI_38 hI
  refine E_aload_n dL_law_252 rfl ?_
  refine E_callV (As := []) (l' := [.ref 0]) (st := []) (a := 0) dL_law_253 kL_32 iX6_fault vX6_fault (by decide) (hf0 _) rfl MX6_fault rfl rfl (Nat.le_of_ble_eq_true rfl) (E_isI (by decide) (by decide) (hr (hov hp M))) (Nat.le_of_ble_eq_true rfl) (fun v h hq => ?_)
  obtain ⟨⟨hv, C1, rfl, hk1, hm⟩, x, hx⟩ := hq
  subst hv
  obtain rfl : r = .int x := Option.some.inj hx
  rw [hov_swap hk1 (CI_kge hI)]
  show E _ _ 256 [.ref 50, .ref 0, .ref 38, .int (nI i)] [.int x] (hov (hov hp C1) M) _
  refine E_aload_n dL_law_256 rfl ?_
  refine E_callV (As := []) (l' := [.ref 38]) (st := [.int x]) (a := 38) dL_law_257 kL_35 iX7_fault vX7_fault (by decide) (hf1 _) rfl MX7_fault rfl rfl (Nat.le_of_ble_eq_true rfl) (hm (hov hp C1)) (Nat.le_of_ble_eq_true rfl) (fun v h hq => ?_)
  obtain ⟨hv, M1, rfl, hI1⟩ := hq
  subst hv
  rw [← hov_swap (CI_klt hI1) (CI_kge hI1)]
  show E _ _ 260 [.ref 50, .ref 0, .ref 38, .int (nI i)] [.int x, .int x] (hov (hov hp M1) C1) _
  exact E_icmp_eq (tgt := 872) dL_law_260 (by decide) (fun _ => K C1 M1 hI1) (fun c => absurd rfl c)

set_option maxHeartbeats 4000000 in
set_option maxRecDepth 20000 in
theorem law_c5 (L : Nat) (xs : Nat → Int32) (hL : L < 2 ^ 31) (i : Nat) (hi : i + 7 ≤ L) (hp : HP) (C M : List (Nat × AC)) (hI : CI C M) (Q : Option Value → HP → Prop) (K : ∀ C1 M1, CI C1 M1 → E (YL L xs) 8 872 [.ref 50, .ref 0, .ref 38, .int (nI i)] [] (hov (hov hp M1) C1) Q) : E (YL L xs) 8 265 [.ref 50, .ref 0, .ref 38, .int (nI i)] [] (hov (hov hp M) C) Q := by
  obtain ⟨r, hr⟩ := S_judge (xs (i + 1))  C M hI
  obtain ⟨fs0, hf0⟩ := CI_0 hI
  obtain ⟨fs1, hf1⟩ := CI_38 hI
  refine E_aload_n dL_law_265 rfl ?_
  refine E_aload_n dL_law_266 rfl ?_
  refine E_iload_n dL_law_267 rfl ?_
  refine E_iconst (v := 1) dL_law_268 (by decide) ?_
  refine E_iadd dL_law_269 ?_
  refine E_eqi (y := nI (i + 1)) (nI_add i 1) ?_
  refine E_sldN (j := i + 1) dL_law_270 rfl (by omega) hL ?_
  refine E_callV (As := [.int (xs (i + 1))]) (l' := [.ref 0, .int (xs (i + 1))]) (st := []) (a := 0) dL_law_271 kL_36 iX6_judge vX6_judge (by decide) (hf0 _) rfl MX6_judge rfl rfl (Nat.le_of_ble_eq_true rfl) (E_isI (by decide) (by decide) (hr (hov hp M))) (Nat.le_of_ble_eq_true rfl) (fun v h hq => ?_)
  obtain ⟨⟨hv, C1, rfl, hk1, hm⟩, x, hx⟩ := hq
  subst hv
  obtain rfl : r = .int x := Option.some.inj hx
  rw [hov_swap hk1 (CI_kge hI)]
  show E _ _ 274 [.ref 50, .ref 0, .ref 38, .int (nI i)] [.int x] (hov (hov hp C1) M) _
  refine E_aload_n dL_law_274 rfl ?_
  refine E_aload_n dL_law_275 rfl ?_
  refine E_iload_n dL_law_276 rfl ?_
  refine E_iconst (v := 1) dL_law_277 (by decide) ?_
  refine E_iadd dL_law_278 ?_
  refine E_eqi (y := nI (i + 1)) (nI_add i 1) ?_
  refine E_sldN (j := i + 1) dL_law_279 rfl (by omega) hL ?_
  refine E_callV (As := [.int (xs (i + 1))]) (l' := [.ref 38, .int (xs (i + 1)), .null]) (st := [.int x]) (a := 38) dL_law_280 kL_39 iX7_judge vX7_judge (by decide) (hf1 _) rfl MX7_judge rfl rfl (Nat.le_of_ble_eq_true rfl) (hm (hov hp C1)) (Nat.le_of_ble_eq_true rfl) (fun v h hq => ?_)
  obtain ⟨hv, M1, rfl, hI1⟩ := hq
  subst hv
  rw [← hov_swap (CI_klt hI1) (CI_kge hI1)]
  show E _ _ 283 [.ref 50, .ref 0, .ref 38, .int (nI i)] [.int x, .int x] (hov (hov hp M1) C1) _
  exact E_icmp_eq (tgt := 872) dL_law_283 (by decide) (fun _ => K C1 M1 hI1) (fun c => absurd rfl c)

set_option maxHeartbeats 4000000 in
set_option maxRecDepth 20000 in
theorem law_c6 (L : Nat) (xs : Nat → Int32) (hL : L < 2 ^ 31) (i : Nat) (hi : i + 7 ≤ L) (hp : HP) (C M : List (Nat × AC)) (hI : CI C M) (Q : Option Value → HP → Prop) (K : ∀ C1 M1, CI C1 M1 → E (YL L xs) 8 872 [.ref 50, .ref 0, .ref 38, .int (nI i)] [] (hov (hov hp M1) C1) Q) : E (YL L xs) 8 288 [.ref 50, .ref 0, .ref 38, .int (nI i)] [] (hov (hov hp M) C) Q := by
  obtain ⟨r, hr⟩ := S_done   C M hI
  obtain ⟨fs0, hf0⟩ := CI_0 hI
  obtain ⟨fs1, hf1⟩ := CI_38 hI
  refine E_aload_n dL_law_288 rfl ?_
  refine E_callV (As := []) (l' := [.ref 0]) (st := []) (a := 0) dL_law_289 kL_40 iX6_done vX6_done (by decide) (hf0 _) rfl MX6_done rfl rfl (Nat.le_of_ble_eq_true rfl) (E_isI (by decide) (by decide) (hr (hov hp M))) (Nat.le_of_ble_eq_true rfl) (fun v h hq => ?_)
  obtain ⟨⟨hv, C1, rfl, hk1, hm⟩, x, hx⟩ := hq
  subst hv
  obtain rfl : r = .int x := Option.some.inj hx
  rw [hov_swap hk1 (CI_kge hI)]
  show E _ _ 292 [.ref 50, .ref 0, .ref 38, .int (nI i)] [.int x] (hov (hov hp C1) M) _
  refine E_aload_n dL_law_292 rfl ?_
  refine E_callV (As := []) (l' := [.ref 38, .null]) (st := [.int x]) (a := 38) dL_law_293 kL_43 iX7_done vX7_done (by decide) (hf1 _) rfl MX7_done rfl rfl (Nat.le_of_ble_eq_true rfl) (hm (hov hp C1)) (Nat.le_of_ble_eq_true rfl) (fun v h hq => ?_)
  obtain ⟨hv, M1, rfl, hI1⟩ := hq
  subst hv
  rw [← hov_swap (CI_klt hI1) (CI_kge hI1)]
  show E _ _ 296 [.ref 50, .ref 0, .ref 38, .int (nI i)] [.int x, .int x] (hov (hov hp M1) C1) _
  exact E_icmp_eq (tgt := 872) dL_law_296 (by decide) (fun _ => K C1 M1 hI1) (fun c => absurd rfl c)

set_option maxHeartbeats 4000000 in
set_option maxRecDepth 20000 in
theorem law_c7 (L : Nat) (xs : Nat → Int32) (hL : L < 2 ^ 31) (i : Nat) (hi : i + 7 ≤ L) (hp : HP) (C M : List (Nat × AC)) (hI : CI C M) (Q : Option Value → HP → Prop) (K : ∀ C1 M1, CI C1 M1 → E (YL L xs) 8 872 [.ref 50, .ref 0, .ref 38, .int (nI i)] [] (hov (hov hp M1) C1) Q) : E (YL L xs) 8 301 [.ref 50, .ref 0, .ref 38, .int (nI i)] [] (hov (hov hp M) C) Q := by
  obtain ⟨r, hr⟩ := S_beh (xs (i + 1)) (xs (i + 2))  C M hI
  obtain ⟨fs0, hf0⟩ := CI_0 hI
  obtain ⟨fs1, hf1⟩ := CI_38 hI
  refine E_aload_n dL_law_301 rfl ?_
  refine E_aload_n dL_law_302 rfl ?_
  refine E_iload_n dL_law_303 rfl ?_
  refine E_iconst (v := 1) dL_law_304 (by decide) ?_
  refine E_iadd dL_law_305 ?_
  refine E_eqi (y := nI (i + 1)) (nI_add i 1) ?_
  refine E_sldN (j := i + 1) dL_law_306 rfl (by omega) hL ?_
  refine E_aload_n dL_law_307 rfl ?_
  refine E_iload_n dL_law_308 rfl ?_
  refine E_iconst (v := 2) dL_law_309 (by decide) ?_
  refine E_iadd dL_law_310 ?_
  refine E_eqi (y := nI (i + 2)) (nI_add i 2) ?_
  refine E_sldN (j := i + 2) dL_law_311 rfl (by omega) hL ?_
  refine E_callV (As := [.int (xs (i + 1)), .int (xs (i + 2))]) (l' := [.ref 0, .int (xs (i + 1)), .int (xs (i + 2))]) (st := []) (a := 0) dL_law_312 kL_44 iX6_behind vX6_behind (by decide) (hf0 _) rfl MX6_behind rfl rfl (Nat.le_of_ble_eq_true rfl) (E_isI (by decide) (by decide) (hr (hov hp M))) (Nat.le_of_ble_eq_true rfl) (fun v h hq => ?_)
  obtain ⟨⟨hv, C1, rfl, hk1, hm⟩, x, hx⟩ := hq
  subst hv
  obtain rfl : r = .int x := Option.some.inj hx
  rw [hov_swap hk1 (CI_kge hI)]
  show E _ _ 315 [.ref 50, .ref 0, .ref 38, .int (nI i)] [.int x] (hov (hov hp C1) M) _
  refine E_aload_n dL_law_315 rfl ?_
  refine E_aload_n dL_law_316 rfl ?_
  refine E_iload_n dL_law_317 rfl ?_
  refine E_iconst (v := 1) dL_law_318 (by decide) ?_
  refine E_iadd dL_law_319 ?_
  refine E_eqi (y := nI (i + 1)) (nI_add i 1) ?_
  refine E_sldN (j := i + 1) dL_law_320 rfl (by omega) hL ?_
  refine E_aload_n dL_law_321 rfl ?_
  refine E_iload_n dL_law_322 rfl ?_
  refine E_iconst (v := 2) dL_law_323 (by decide) ?_
  refine E_iadd dL_law_324 ?_
  refine E_eqi (y := nI (i + 2)) (nI_add i 2) ?_
  refine E_sldN (j := i + 2) dL_law_325 rfl (by omega) hL ?_
  refine E_callV (As := [.int (xs (i + 1)), .int (xs (i + 2))]) (l' := [.ref 38, .int (xs (i + 1)), .int (xs (i + 2))]) (st := [.int x]) (a := 38) dL_law_326 kL_48 iX7_behind vX7_behind (by decide) (hf1 _) rfl MX7_behind rfl rfl (Nat.le_of_ble_eq_true rfl) (hm (hov hp C1)) (Nat.le_of_ble_eq_true rfl) (fun v h hq => ?_)
  obtain ⟨hv, M1, rfl, hI1⟩ := hq
  subst hv
  rw [← hov_swap (CI_klt hI1) (CI_kge hI1)]
  show E _ _ 329 [.ref 50, .ref 0, .ref 38, .int (nI i)] [.int x, .int x] (hov (hov hp M1) C1) _
  exact E_icmp_eq (tgt := 872) dL_law_329 (by decide) (fun _ => K C1 M1 hI1) (fun c => absurd rfl c)

set_option maxHeartbeats 4000000 in
set_option maxRecDepth 20000 in
theorem law_c8 (L : Nat) (xs : Nat → Int32) (hL : L < 2 ^ 31) (i : Nat) (hi : i + 7 ≤ L) (hp : HP) (C M : List (Nat × AC)) (hI : CI C M) (Q : Option Value → HP → Prop) (K : ∀ C1 M1, CI C1 M1 → E (YL L xs) 8 872 [.ref 50, .ref 0, .ref 38, .int (nI i)] [] (hov (hov hp M1) C1) Q) : E (YL L xs) 8 334 [.ref 50, .ref 0, .ref 38, .int (nI i)] [] (hov (hov hp M) C) Q := by
  obtain ⟨r, hr⟩ := S_then (xs (i + 1))  C M hI
  obtain ⟨fs0, hf0⟩ := CI_0 hI
  obtain ⟨fs1, hf1⟩ := CI_38 hI
  refine E_aload_n dL_law_334 rfl ?_
  refine E_aload_n dL_law_335 rfl ?_
  refine E_iload_n dL_law_336 rfl ?_
  refine E_iconst (v := 1) dL_law_337 (by decide) ?_
  refine E_iadd dL_law_338 ?_
  refine E_eqi (y := nI (i + 1)) (nI_add i 1) ?_
  refine E_sldN (j := i + 1) dL_law_339 rfl (by omega) hL ?_
  refine E_callV (As := [.int (xs (i + 1))]) (l' := [.ref 0, .int (xs (i + 1))]) (st := []) (a := 0) dL_law_340 kL_49 iX6_then vX6_then (by decide) (hf0 _) rfl MX6_then rfl rfl (Nat.le_of_ble_eq_true rfl) (E_isI (by decide) (by decide) (hr (hov hp M))) (Nat.le_of_ble_eq_true rfl) (fun v h hq => ?_)
  obtain ⟨⟨hv, C1, rfl, hk1, hm⟩, x, hx⟩ := hq
  subst hv
  obtain rfl : r = .int x := Option.some.inj hx
  rw [hov_swap hk1 (CI_kge hI)]
  show E _ _ 343 [.ref 50, .ref 0, .ref 38, .int (nI i)] [.int x] (hov (hov hp C1) M) _
  refine E_aload_n dL_law_343 rfl ?_
  refine E_aload_n dL_law_344 rfl ?_
  refine E_iload_n dL_law_345 rfl ?_
  refine E_iconst (v := 1) dL_law_346 (by decide) ?_
  refine E_iadd dL_law_347 ?_
  refine E_eqi (y := nI (i + 1)) (nI_add i 1) ?_
  refine E_sldN (j := i + 1) dL_law_348 rfl (by omega) hL ?_
  refine E_callV (As := [.int (xs (i + 1))]) (l' := [.ref 38, .int (xs (i + 1))]) (st := [.int x]) (a := 38) dL_law_349 kL_52 iX7_then vX7_then (by decide) (hf1 _) rfl MX7_then rfl rfl (Nat.le_of_ble_eq_true rfl) (hm (hov hp C1)) (Nat.le_of_ble_eq_true rfl) (fun v h hq => ?_)
  obtain ⟨hv, M1, rfl, hI1⟩ := hq
  subst hv
  rw [← hov_swap (CI_klt hI1) (CI_kge hI1)]
  show E _ _ 352 [.ref 50, .ref 0, .ref 38, .int (nI i)] [.int x, .int x] (hov (hov hp M1) C1) _
  exact E_icmp_eq (tgt := 872) dL_law_352 (by decide) (fun _ => K C1 M1 hI1) (fun c => absurd rfl c)

set_option maxHeartbeats 4000000 in
set_option maxRecDepth 20000 in
theorem law_c9 (L : Nat) (xs : Nat → Int32) (hL : L < 2 ^ 31) (i : Nat) (hi : i + 7 ≤ L) (hp : HP) (C M : List (Nat × AC)) (hI : CI C M) (Q : Option Value → HP → Prop) (K : ∀ C1 M1, CI C1 M1 → E (YL L xs) 8 872 [.ref 50, .ref 0, .ref 38, .int (nI i)] [] (hov (hov hp M1) C1) Q) : E (YL L xs) 8 357 [.ref 50, .ref 0, .ref 38, .int (nI i)] [] (hov (hov hp M) C) Q := by
  obtain ⟨r, hr⟩ := S_chain (xs (i + 1))  C M hI
  obtain ⟨fs0, hf0⟩ := CI_0 hI
  obtain ⟨fs1, hf1⟩ := CI_38 hI
  refine E_aload_n dL_law_357 rfl ?_
  refine E_aload_n dL_law_358 rfl ?_
  refine E_iload_n dL_law_359 rfl ?_
  refine E_iconst (v := 1) dL_law_360 (by decide) ?_
  refine E_iadd dL_law_361 ?_
  refine E_eqi (y := nI (i + 1)) (nI_add i 1) ?_
  refine E_sldN (j := i + 1) dL_law_362 rfl (by omega) hL ?_
  refine E_callV (As := [.int (xs (i + 1))]) (l' := [.ref 0, .int (xs (i + 1))]) (st := []) (a := 0) dL_law_363 kL_53 iX6_chain vX6_chain (by decide) (hf0 _) rfl MX6_chain rfl rfl (Nat.le_of_ble_eq_true rfl) (E_isI (by decide) (by decide) (hr (hov hp M))) (Nat.le_of_ble_eq_true rfl) (fun v h hq => ?_)
  obtain ⟨⟨hv, C1, rfl, hk1, hm⟩, x, hx⟩ := hq
  subst hv
  obtain rfl : r = .int x := Option.some.inj hx
  rw [hov_swap hk1 (CI_kge hI)]
  show E _ _ 366 [.ref 50, .ref 0, .ref 38, .int (nI i)] [.int x] (hov (hov hp C1) M) _
  refine E_aload_n dL_law_366 rfl ?_
  refine E_aload_n dL_law_367 rfl ?_
  refine E_iload_n dL_law_368 rfl ?_
  refine E_iconst (v := 1) dL_law_369 (by decide) ?_
  refine E_iadd dL_law_370 ?_
  refine E_eqi (y := nI (i + 1)) (nI_add i 1) ?_
  refine E_sldN (j := i + 1) dL_law_371 rfl (by omega) hL ?_
  refine E_callV (As := [.int (xs (i + 1))]) (l' := [.ref 38, .int (xs (i + 1))]) (st := [.int x]) (a := 38) dL_law_372 kL_56 iX7_chain vX7_chain (by decide) (hf1 _) rfl MX7_chain rfl rfl (Nat.le_of_ble_eq_true rfl) (hm (hov hp C1)) (Nat.le_of_ble_eq_true rfl) (fun v h hq => ?_)
  obtain ⟨hv, M1, rfl, hI1⟩ := hq
  subst hv
  rw [← hov_swap (CI_klt hI1) (CI_kge hI1)]
  show E _ _ 375 [.ref 50, .ref 0, .ref 38, .int (nI i)] [.int x, .int x] (hov (hov hp M1) C1) _
  exact E_icmp_eq (tgt := 872) dL_law_375 (by decide) (fun _ => K C1 M1 hI1) (fun c => absurd rfl c)

set_option maxHeartbeats 4000000 in
set_option maxRecDepth 20000 in
theorem law_c10 (L : Nat) (xs : Nat → Int32) (hL : L < 2 ^ 31) (i : Nat) (hi : i + 7 ≤ L) (hp : HP) (C M : List (Nat × AC)) (hI : CI C M) (Q : Option Value → HP → Prop) (K : ∀ C1 M1, CI C1 M1 → E (YL L xs) 8 872 [.ref 50, .ref 0, .ref 38, .int (nI i)] [] (hov (hov hp M1) C1) Q) : E (YL L xs) 8 380 [.ref 50, .ref 0, .ref 38, .int (nI i)] [] (hov (hov hp M) C) Q := by
  obtain ⟨r, hr⟩ := S_cover (xs (i + 1)) (xs (i + 2)) (xs (i + 3))  C M hI
  obtain ⟨fs0, hf0⟩ := CI_0 hI
  obtain ⟨fs1, hf1⟩ := CI_38 hI
  refine E_aload_n dL_law_380 rfl ?_
  refine E_aload_n dL_law_381 rfl ?_
  refine E_iload_n dL_law_382 rfl ?_
  refine E_iconst (v := 1) dL_law_383 (by decide) ?_
  refine E_iadd dL_law_384 ?_
  refine E_eqi (y := nI (i + 1)) (nI_add i 1) ?_
  refine E_sldN (j := i + 1) dL_law_385 rfl (by omega) hL ?_
  refine E_aload_n dL_law_386 rfl ?_
  refine E_iload_n dL_law_387 rfl ?_
  refine E_iconst (v := 2) dL_law_388 (by decide) ?_
  refine E_iadd dL_law_389 ?_
  refine E_eqi (y := nI (i + 2)) (nI_add i 2) ?_
  refine E_sldN (j := i + 2) dL_law_390 rfl (by omega) hL ?_
  refine E_aload_n dL_law_391 rfl ?_
  refine E_iload_n dL_law_392 rfl ?_
  refine E_iconst (v := 3) dL_law_393 (by decide) ?_
  refine E_iadd dL_law_394 ?_
  refine E_eqi (y := nI (i + 3)) (nI_add i 3) ?_
  refine E_sldN (j := i + 3) dL_law_395 rfl (by omega) hL ?_
  refine E_callV (As := [.int (xs (i + 1)), .int (xs (i + 2)), .int (xs (i + 3))]) (l' := [.ref 0, .int (xs (i + 1)), .int (xs (i + 2)), .int (xs (i + 3)), .null]) (st := []) (a := 0) dL_law_396 kL_57 iX6_cover vX6_cover (by decide) (hf0 _) rfl MX6_cover rfl rfl (Nat.le_of_ble_eq_true rfl) (E_isI (by decide) (by decide) (hr (hov hp M))) (Nat.le_of_ble_eq_true rfl) (fun v h hq => ?_)
  obtain ⟨⟨hv, C1, rfl, hk1, hm⟩, x, hx⟩ := hq
  subst hv
  obtain rfl : r = .int x := Option.some.inj hx
  rw [hov_swap hk1 (CI_kge hI)]
  show E _ _ 399 [.ref 50, .ref 0, .ref 38, .int (nI i)] [.int x] (hov (hov hp C1) M) _
  refine E_aload_n dL_law_399 rfl ?_
  refine E_aload_n dL_law_400 rfl ?_
  refine E_iload_n dL_law_401 rfl ?_
  refine E_iconst (v := 1) dL_law_402 (by decide) ?_
  refine E_iadd dL_law_403 ?_
  refine E_eqi (y := nI (i + 1)) (nI_add i 1) ?_
  refine E_sldN (j := i + 1) dL_law_404 rfl (by omega) hL ?_
  refine E_aload_n dL_law_405 rfl ?_
  refine E_iload_n dL_law_406 rfl ?_
  refine E_iconst (v := 2) dL_law_407 (by decide) ?_
  refine E_iadd dL_law_408 ?_
  refine E_eqi (y := nI (i + 2)) (nI_add i 2) ?_
  refine E_sldN (j := i + 2) dL_law_409 rfl (by omega) hL ?_
  refine E_aload_n dL_law_410 rfl ?_
  refine E_iload_n dL_law_411 rfl ?_
  refine E_iconst (v := 3) dL_law_412 (by decide) ?_
  refine E_iadd dL_law_413 ?_
  refine E_eqi (y := nI (i + 3)) (nI_add i 3) ?_
  refine E_sldN (j := i + 3) dL_law_414 rfl (by omega) hL ?_
  refine E_callV (As := [.int (xs (i + 1)), .int (xs (i + 2)), .int (xs (i + 3))]) (l' := [.ref 38, .int (xs (i + 1)), .int (xs (i + 2)), .int (xs (i + 3)), .null, .null, .null]) (st := [.int x]) (a := 38) dL_law_415 kL_61 iX7_cover vX7_cover (by decide) (hf1 _) rfl MX7_cover rfl rfl (Nat.le_of_ble_eq_true rfl) (hm (hov hp C1)) (Nat.le_of_ble_eq_true rfl) (fun v h hq => ?_)
  obtain ⟨hv, M1, rfl, hI1⟩ := hq
  subst hv
  rw [← hov_swap (CI_klt hI1) (CI_kge hI1)]
  show E _ _ 418 [.ref 50, .ref 0, .ref 38, .int (nI i)] [.int x, .int x] (hov (hov hp M1) C1) _
  exact E_icmp_eq (tgt := 872) dL_law_418 (by decide) (fun _ => K C1 M1 hI1) (fun c => absurd rfl c)

set_option maxHeartbeats 4000000 in
set_option maxRecDepth 20000 in
theorem law_c11 (L : Nat) (xs : Nat → Int32) (hL : L < 2 ^ 31) (i : Nat) (hi : i + 7 ≤ L) (hp : HP) (C M : List (Nat × AC)) (hI : CI C M) (Q : Option Value → HP → Prop) (K : ∀ C1 M1, CI C1 M1 → E (YL L xs) 8 872 [.ref 50, .ref 0, .ref 38, .int (nI i)] [] (hov (hov hp M1) C1) Q) : E (YL L xs) 8 423 [.ref 50, .ref 0, .ref 38, .int (nI i)] [] (hov (hov hp M) C) Q := by
  obtain ⟨r, hr⟩ := S_due (xs (i + 1)) (xs (i + 4)) (xs (i + 5)) (((Int32.toInt64 (xs (i + 2))) <<< ((32 : Int32).toInt64 &&& 63)) ||| ((Int32.toInt64 (xs (i + 3))) &&& 4294967295)) C M hI
  obtain ⟨fs0, hf0⟩ := CI_0 hI
  obtain ⟨fs1, hf1⟩ := CI_38 hI
  refine E_aload_n dL_law_423 rfl ?_
  refine E_aload_n dL_law_424 rfl ?_
  refine E_iload_n dL_law_425 rfl ?_
  refine E_iconst (v := 1) dL_law_426 (by decide) ?_
  refine E_iadd dL_law_427 ?_
  refine E_eqi (y := nI (i + 1)) (nI_add i 1) ?_
  refine E_sldN (j := i + 1) dL_law_428 rfl (by omega) hL ?_
  refine E_aload_n dL_law_429 rfl ?_
  refine E_iload_n dL_law_430 rfl ?_
  refine E_iconst (v := 2) dL_law_431 (by decide) ?_
  refine E_iadd dL_law_432 ?_
  refine E_eqi (y := nI (i + 2)) (nI_add i 2) ?_
  refine E_sldN (j := i + 2) dL_law_433 rfl (by omega) hL ?_
  refine E_i2l dL_law_434 ?_
  refine E_bipush (v := 32) dL_law_435 (by decide) ?_
  refine E_lshl dL_law_437 ?_
  refine E_aload_n dL_law_438 rfl ?_
  refine E_iload_n dL_law_439 rfl ?_
  refine E_iconst (v := 3) dL_law_440 (by decide) ?_
  refine E_iadd dL_law_441 ?_
  refine E_eqi (y := nI (i + 3)) (nI_add i 3) ?_
  refine E_sldN (j := i + 3) dL_law_442 rfl (by omega) hL ?_
  refine E_i2l dL_law_443 ?_
  refine E_ldc2 dL_law_444 qL_62 ?_
  refine E_land dL_law_447 ?_
  refine E_lor dL_law_448 ?_
  refine E_aload_n dL_law_449 rfl ?_
  refine E_iload_n dL_law_450 rfl ?_
  refine E_iconst (v := 4) dL_law_451 (by decide) ?_
  refine E_iadd dL_law_452 ?_
  refine E_eqi (y := nI (i + 4)) (nI_add i 4) ?_
  refine E_sldN (j := i + 4) dL_law_453 rfl (by omega) hL ?_
  refine E_aload_n dL_law_454 rfl ?_
  refine E_iload_n dL_law_455 rfl ?_
  refine E_iconst (v := 5) dL_law_456 (by decide) ?_
  refine E_iadd dL_law_457 ?_
  refine E_eqi (y := nI (i + 5)) (nI_add i 5) ?_
  refine E_sldN (j := i + 5) dL_law_458 rfl (by omega) hL ?_
  refine E_callV (As := [.int (xs (i + 1)), .long (((Int32.toInt64 (xs (i + 2))) <<< ((32 : Int32).toInt64 &&& 63)) ||| ((Int32.toInt64 (xs (i + 3))) &&& 4294967295)), .int (xs (i + 4)), .int (xs (i + 5))]) (l' := [.ref 0, .int (xs (i + 1)), .long (((Int32.toInt64 (xs (i + 2))) <<< ((32 : Int32).toInt64 &&& 63)) ||| ((Int32.toInt64 (xs (i + 3))) &&& 4294967295)), .null, .int (xs (i + 4)), .int (xs (i + 5)), .null]) (st := []) (a := 0) dL_law_459 kL_64 iX6_due vX6_due (by decide) (hf0 _) rfl MX6_due rfl rfl (Nat.le_of_ble_eq_true rfl) (E_isI (by decide) (by decide) (hr (hov hp M))) (Nat.le_of_ble_eq_true rfl) (fun v h hq => ?_)
  obtain ⟨⟨hv, C1, rfl, hk1, hm⟩, x, hx⟩ := hq
  subst hv
  obtain rfl : r = .int x := Option.some.inj hx
  rw [hov_swap hk1 (CI_kge hI)]
  show E _ _ 462 [.ref 50, .ref 0, .ref 38, .int (nI i)] [.int x] (hov (hov hp C1) M) _
  refine E_aload_n dL_law_462 rfl ?_
  refine E_aload_n dL_law_463 rfl ?_
  refine E_iload_n dL_law_464 rfl ?_
  refine E_iconst (v := 1) dL_law_465 (by decide) ?_
  refine E_iadd dL_law_466 ?_
  refine E_eqi (y := nI (i + 1)) (nI_add i 1) ?_
  refine E_sldN (j := i + 1) dL_law_467 rfl (by omega) hL ?_
  refine E_aload_n dL_law_468 rfl ?_
  refine E_iload_n dL_law_469 rfl ?_
  refine E_iconst (v := 2) dL_law_470 (by decide) ?_
  refine E_iadd dL_law_471 ?_
  refine E_eqi (y := nI (i + 2)) (nI_add i 2) ?_
  refine E_sldN (j := i + 2) dL_law_472 rfl (by omega) hL ?_
  refine E_i2l dL_law_473 ?_
  refine E_bipush (v := 32) dL_law_474 (by decide) ?_
  refine E_lshl dL_law_476 ?_
  refine E_aload_n dL_law_477 rfl ?_
  refine E_iload_n dL_law_478 rfl ?_
  refine E_iconst (v := 3) dL_law_479 (by decide) ?_
  refine E_iadd dL_law_480 ?_
  refine E_eqi (y := nI (i + 3)) (nI_add i 3) ?_
  refine E_sldN (j := i + 3) dL_law_481 rfl (by omega) hL ?_
  refine E_i2l dL_law_482 ?_
  refine E_ldc2 dL_law_483 qL_62 ?_
  refine E_land dL_law_486 ?_
  refine E_lor dL_law_487 ?_
  refine E_aload_n dL_law_488 rfl ?_
  refine E_iload_n dL_law_489 rfl ?_
  refine E_iconst (v := 4) dL_law_490 (by decide) ?_
  refine E_iadd dL_law_491 ?_
  refine E_eqi (y := nI (i + 4)) (nI_add i 4) ?_
  refine E_sldN (j := i + 4) dL_law_492 rfl (by omega) hL ?_
  refine E_aload_n dL_law_493 rfl ?_
  refine E_iload_n dL_law_494 rfl ?_
  refine E_iconst (v := 5) dL_law_495 (by decide) ?_
  refine E_iadd dL_law_496 ?_
  refine E_eqi (y := nI (i + 5)) (nI_add i 5) ?_
  refine E_sldN (j := i + 5) dL_law_497 rfl (by omega) hL ?_
  refine E_callV (As := [.int (xs (i + 1)), .long (((Int32.toInt64 (xs (i + 2))) <<< ((32 : Int32).toInt64 &&& 63)) ||| ((Int32.toInt64 (xs (i + 3))) &&& 4294967295)), .int (xs (i + 4)), .int (xs (i + 5))]) (l' := [.ref 38, .int (xs (i + 1)), .long (((Int32.toInt64 (xs (i + 2))) <<< ((32 : Int32).toInt64 &&& 63)) ||| ((Int32.toInt64 (xs (i + 3))) &&& 4294967295)), .null, .int (xs (i + 4)), .int (xs (i + 5)), .null, .null, .null, .null, .null, .null]) (st := [.int x]) (a := 38) dL_law_498 kL_68 iX7_due vX7_due (by decide) (hf1 _) rfl MX7_due rfl rfl (Nat.le_of_ble_eq_true rfl) (hm (hov hp C1)) (Nat.le_of_ble_eq_true rfl) (fun v h hq => ?_)
  obtain ⟨hv, M1, rfl, hI1⟩ := hq
  subst hv
  rw [← hov_swap (CI_klt hI1) (CI_kge hI1)]
  show E _ _ 501 [.ref 50, .ref 0, .ref 38, .int (nI i)] [.int x, .int x] (hov (hov hp M1) C1) _
  exact E_icmp_eq (tgt := 872) dL_law_501 (by decide) (fun _ => K C1 M1 hI1) (fun c => absurd rfl c)

set_option maxHeartbeats 4000000 in
set_option maxRecDepth 20000 in
theorem law_c12 (L : Nat) (xs : Nat → Int32) (hL : L < 2 ^ 31) (i : Nat) (hi : i + 7 ≤ L) (hp : HP) (C M : List (Nat × AC)) (hI : CI C M) (Q : Option Value → HP → Prop) (K : ∀ C1 M1, CI C1 M1 → E (YL L xs) 8 872 [.ref 50, .ref 0, .ref 38, .int (nI i)] [] (hov (hov hp M1) C1) Q) : E (YL L xs) 8 506 [.ref 50, .ref 0, .ref 38, .int (nI i)] [] (hov (hov hp M) C) Q := by
  obtain ⟨r, hr⟩ := S_nods (xs (i + 1)) (xs (i + 2)) (xs (i + 3)) (xs (i + 4)) (xs (i + 5)) (xs (i + 6))  C M hI
  obtain ⟨fs0, hf0⟩ := CI_0 hI
  obtain ⟨fs1, hf1⟩ := CI_38 hI
  refine E_aload_n dL_law_506 rfl ?_
  refine E_aload_n dL_law_507 rfl ?_
  refine E_iload_n dL_law_508 rfl ?_
  refine E_iconst (v := 1) dL_law_509 (by decide) ?_
  refine E_iadd dL_law_510 ?_
  refine E_eqi (y := nI (i + 1)) (nI_add i 1) ?_
  refine E_sldN (j := i + 1) dL_law_511 rfl (by omega) hL ?_
  refine E_aload_n dL_law_512 rfl ?_
  refine E_iload_n dL_law_513 rfl ?_
  refine E_iconst (v := 2) dL_law_514 (by decide) ?_
  refine E_iadd dL_law_515 ?_
  refine E_eqi (y := nI (i + 2)) (nI_add i 2) ?_
  refine E_sldN (j := i + 2) dL_law_516 rfl (by omega) hL ?_
  refine E_aload_n dL_law_517 rfl ?_
  refine E_iload_n dL_law_518 rfl ?_
  refine E_iconst (v := 3) dL_law_519 (by decide) ?_
  refine E_iadd dL_law_520 ?_
  refine E_eqi (y := nI (i + 3)) (nI_add i 3) ?_
  refine E_sldN (j := i + 3) dL_law_521 rfl (by omega) hL ?_
  refine E_aload_n dL_law_522 rfl ?_
  refine E_iload_n dL_law_523 rfl ?_
  refine E_iconst (v := 4) dL_law_524 (by decide) ?_
  refine E_iadd dL_law_525 ?_
  refine E_eqi (y := nI (i + 4)) (nI_add i 4) ?_
  refine E_sldN (j := i + 4) dL_law_526 rfl (by omega) hL ?_
  refine E_aload_n dL_law_527 rfl ?_
  refine E_iload_n dL_law_528 rfl ?_
  refine E_iconst (v := 5) dL_law_529 (by decide) ?_
  refine E_iadd dL_law_530 ?_
  refine E_eqi (y := nI (i + 5)) (nI_add i 5) ?_
  refine E_sldN (j := i + 5) dL_law_531 rfl (by omega) hL ?_
  refine E_aload_n dL_law_532 rfl ?_
  refine E_iload_n dL_law_533 rfl ?_
  refine E_bipush (v := 6) dL_law_534 (by decide) ?_
  refine E_iadd dL_law_536 ?_
  refine E_eqi (y := nI (i + 6)) (nI_add i 6) ?_
  refine E_sldN (j := i + 6) dL_law_537 rfl (by omega) hL ?_
  refine E_callV (As := [.int (xs (i + 1)), .int (xs (i + 2)), .int (xs (i + 3)), .int (xs (i + 4)), .int (xs (i + 5)), .int (xs (i + 6))]) (l' := [.ref 0, .int (xs (i + 1)), .int (xs (i + 2)), .int (xs (i + 3)), .int (xs (i + 4)), .int (xs (i + 5)), .int (xs (i + 6)), .null, .null]) (st := []) (a := 0) dL_law_538 kL_69 iX6_nods vX6_nods (by decide) (hf0 _) rfl MX6_nods rfl rfl (Nat.le_of_ble_eq_true rfl) (E_isI (by decide) (by decide) (hr (hov hp M))) (Nat.le_of_ble_eq_true rfl) (fun v h hq => ?_)
  obtain ⟨⟨hv, C1, rfl, hk1, hm⟩, x, hx⟩ := hq
  subst hv
  obtain rfl : r = .int x := Option.some.inj hx
  rw [hov_swap hk1 (CI_kge hI)]
  show E _ _ 541 [.ref 50, .ref 0, .ref 38, .int (nI i)] [.int x] (hov (hov hp C1) M) _
  refine E_aload_n dL_law_541 rfl ?_
  refine E_aload_n dL_law_542 rfl ?_
  refine E_iload_n dL_law_543 rfl ?_
  refine E_iconst (v := 1) dL_law_544 (by decide) ?_
  refine E_iadd dL_law_545 ?_
  refine E_eqi (y := nI (i + 1)) (nI_add i 1) ?_
  refine E_sldN (j := i + 1) dL_law_546 rfl (by omega) hL ?_
  refine E_aload_n dL_law_547 rfl ?_
  refine E_iload_n dL_law_548 rfl ?_
  refine E_iconst (v := 2) dL_law_549 (by decide) ?_
  refine E_iadd dL_law_550 ?_
  refine E_eqi (y := nI (i + 2)) (nI_add i 2) ?_
  refine E_sldN (j := i + 2) dL_law_551 rfl (by omega) hL ?_
  refine E_aload_n dL_law_552 rfl ?_
  refine E_iload_n dL_law_553 rfl ?_
  refine E_iconst (v := 3) dL_law_554 (by decide) ?_
  refine E_iadd dL_law_555 ?_
  refine E_eqi (y := nI (i + 3)) (nI_add i 3) ?_
  refine E_sldN (j := i + 3) dL_law_556 rfl (by omega) hL ?_
  refine E_aload_n dL_law_557 rfl ?_
  refine E_iload_n dL_law_558 rfl ?_
  refine E_iconst (v := 4) dL_law_559 (by decide) ?_
  refine E_iadd dL_law_560 ?_
  refine E_eqi (y := nI (i + 4)) (nI_add i 4) ?_
  refine E_sldN (j := i + 4) dL_law_561 rfl (by omega) hL ?_
  refine E_aload_n dL_law_562 rfl ?_
  refine E_iload_n dL_law_563 rfl ?_
  refine E_iconst (v := 5) dL_law_564 (by decide) ?_
  refine E_iadd dL_law_565 ?_
  refine E_eqi (y := nI (i + 5)) (nI_add i 5) ?_
  refine E_sldN (j := i + 5) dL_law_566 rfl (by omega) hL ?_
  refine E_aload_n dL_law_567 rfl ?_
  refine E_iload_n dL_law_568 rfl ?_
  refine E_bipush (v := 6) dL_law_569 (by decide) ?_
  refine E_iadd dL_law_571 ?_
  refine E_eqi (y := nI (i + 6)) (nI_add i 6) ?_
  refine E_sldN (j := i + 6) dL_law_572 rfl (by omega) hL ?_
  refine E_callV (As := [.int (xs (i + 1)), .int (xs (i + 2)), .int (xs (i + 3)), .int (xs (i + 4)), .int (xs (i + 5)), .int (xs (i + 6))]) (l' := [.ref 38, .int (xs (i + 1)), .int (xs (i + 2)), .int (xs (i + 3)), .int (xs (i + 4)), .int (xs (i + 5)), .int (xs (i + 6)), .null, .null, .null, .null]) (st := [.int x]) (a := 38) dL_law_573 kL_73 iX7_nods vX7_nods (by decide) (hf1 _) rfl MX7_nods rfl rfl (Nat.le_of_ble_eq_true rfl) (hm (hov hp C1)) (Nat.le_of_ble_eq_true rfl) (fun v h hq => ?_)
  obtain ⟨hv, M1, rfl, hI1⟩ := hq
  subst hv
  rw [← hov_swap (CI_klt hI1) (CI_kge hI1)]
  show E _ _ 576 [.ref 50, .ref 0, .ref 38, .int (nI i)] [.int x, .int x] (hov (hov hp M1) C1) _
  exact E_icmp_eq (tgt := 872) dL_law_576 (by decide) (fun _ => K C1 M1 hI1) (fun c => absurd rfl c)

set_option maxHeartbeats 4000000 in
set_option maxRecDepth 20000 in
theorem law_c13 (L : Nat) (xs : Nat → Int32) (hL : L < 2 ^ 31) (i : Nat) (hi : i + 7 ≤ L) (hp : HP) (C M : List (Nat × AC)) (hI : CI C M) (Q : Option Value → HP → Prop) (K : ∀ C1 M1, CI C1 M1 → E (YL L xs) 8 872 [.ref 50, .ref 0, .ref 38, .int (nI i)] [] (hov (hov hp M1) C1) Q) : E (YL L xs) 8 581 [.ref 50, .ref 0, .ref 38, .int (nI i)] [] (hov (hov hp M) C) Q := by
  obtain ⟨r, hr⟩ := S_seen (xs (i + 1)) (xs (i + 2))  C M hI
  obtain ⟨fs0, hf0⟩ := CI_0 hI
  obtain ⟨fs1, hf1⟩ := CI_38 hI
  refine E_aload_n dL_law_581 rfl ?_
  refine E_aload_n dL_law_582 rfl ?_
  refine E_iload_n dL_law_583 rfl ?_
  refine E_iconst (v := 1) dL_law_584 (by decide) ?_
  refine E_iadd dL_law_585 ?_
  refine E_eqi (y := nI (i + 1)) (nI_add i 1) ?_
  refine E_sldN (j := i + 1) dL_law_586 rfl (by omega) hL ?_
  refine E_aload_n dL_law_587 rfl ?_
  refine E_iload_n dL_law_588 rfl ?_
  refine E_iconst (v := 2) dL_law_589 (by decide) ?_
  refine E_iadd dL_law_590 ?_
  refine E_eqi (y := nI (i + 2)) (nI_add i 2) ?_
  refine E_sldN (j := i + 2) dL_law_591 rfl (by omega) hL ?_
  refine E_callV (As := [.int (xs (i + 1)), .int (xs (i + 2))]) (l' := [.ref 0, .int (xs (i + 1)), .int (xs (i + 2))]) (st := []) (a := 0) dL_law_592 kL_74 iX6_seen vX6_seen (by decide) (hf0 _) rfl MX6_seen rfl rfl (Nat.le_of_ble_eq_true rfl) (E_isI (by decide) (by decide) (hr (hov hp M))) (Nat.le_of_ble_eq_true rfl) (fun v h hq => ?_)
  obtain ⟨⟨hv, C1, rfl, hk1, hm⟩, x, hx⟩ := hq
  subst hv
  obtain rfl : r = .int x := Option.some.inj hx
  rw [hov_swap hk1 (CI_kge hI)]
  show E _ _ 595 [.ref 50, .ref 0, .ref 38, .int (nI i)] [.int x] (hov (hov hp C1) M) _
  refine E_aload_n dL_law_595 rfl ?_
  refine E_aload_n dL_law_596 rfl ?_
  refine E_iload_n dL_law_597 rfl ?_
  refine E_iconst (v := 1) dL_law_598 (by decide) ?_
  refine E_iadd dL_law_599 ?_
  refine E_eqi (y := nI (i + 1)) (nI_add i 1) ?_
  refine E_sldN (j := i + 1) dL_law_600 rfl (by omega) hL ?_
  refine E_aload_n dL_law_601 rfl ?_
  refine E_iload_n dL_law_602 rfl ?_
  refine E_iconst (v := 2) dL_law_603 (by decide) ?_
  refine E_iadd dL_law_604 ?_
  refine E_eqi (y := nI (i + 2)) (nI_add i 2) ?_
  refine E_sldN (j := i + 2) dL_law_605 rfl (by omega) hL ?_
  refine E_callV (As := [.int (xs (i + 1)), .int (xs (i + 2))]) (l' := [.ref 38, .int (xs (i + 1)), .int (xs (i + 2))]) (st := [.int x]) (a := 38) dL_law_606 kL_77 iX7_seen vX7_seen (by decide) (hf1 _) rfl MX7_seen rfl rfl (Nat.le_of_ble_eq_true rfl) (hm (hov hp C1)) (Nat.le_of_ble_eq_true rfl) (fun v h hq => ?_)
  obtain ⟨hv, M1, rfl, hI1⟩ := hq
  subst hv
  rw [← hov_swap (CI_klt hI1) (CI_kge hI1)]
  show E _ _ 609 [.ref 50, .ref 0, .ref 38, .int (nI i)] [.int x, .int x] (hov (hov hp M1) C1) _
  exact E_icmp_eq (tgt := 872) dL_law_609 (by decide) (fun _ => K C1 M1 hI1) (fun c => absurd rfl c)

set_option maxHeartbeats 4000000 in
set_option maxRecDepth 20000 in
theorem law_c14 (L : Nat) (xs : Nat → Int32) (hL : L < 2 ^ 31) (i : Nat) (hi : i + 7 ≤ L) (hp : HP) (C M : List (Nat × AC)) (hI : CI C M) (Q : Option Value → HP → Prop) (K : ∀ C1 M1, CI C1 M1 → E (YL L xs) 8 872 [.ref 50, .ref 0, .ref 38, .int (nI i)] [] (hov (hov hp M1) C1) Q) : E (YL L xs) 8 614 [.ref 50, .ref 0, .ref 38, .int (nI i)] [] (hov (hov hp M) C) Q := by
  obtain ⟨r, hr⟩ := S_forget   C M hI
  obtain ⟨fs0, hf0⟩ := CI_0 hI
  obtain ⟨fs1, hf1⟩ := CI_38 hI
  refine E_aload_n dL_law_614 rfl ?_
  refine E_callV (As := []) (l' := [.ref 0, .null]) (st := []) (a := 0) dL_law_615 kL_78 iX6_forget vX6_forget (by decide) (hf0 _) rfl MX6_forget rfl rfl (Nat.le_of_ble_eq_true rfl) (E_isI (by decide) (by decide) (hr (hov hp M))) (Nat.le_of_ble_eq_true rfl) (fun v h hq => ?_)
  obtain ⟨⟨hv, C1, rfl, hk1, hm⟩, x, hx⟩ := hq
  subst hv
  obtain rfl : r = .int x := Option.some.inj hx
  rw [hov_swap hk1 (CI_kge hI)]
  show E _ _ 618 [.ref 50, .ref 0, .ref 38, .int (nI i)] [.int x] (hov (hov hp C1) M) _
  refine E_aload_n dL_law_618 rfl ?_
  refine E_callV (As := []) (l' := [.ref 38, .null]) (st := [.int x]) (a := 38) dL_law_619 kL_81 iX7_forget vX7_forget (by decide) (hf1 _) rfl MX7_forget rfl rfl (Nat.le_of_ble_eq_true rfl) (hm (hov hp C1)) (Nat.le_of_ble_eq_true rfl) (fun v h hq => ?_)
  obtain ⟨hv, M1, rfl, hI1⟩ := hq
  subst hv
  rw [← hov_swap (CI_klt hI1) (CI_kge hI1)]
  show E _ _ 622 [.ref 50, .ref 0, .ref 38, .int (nI i)] [.int x, .int x] (hov (hov hp M1) C1) _
  exact E_icmp_eq (tgt := 872) dL_law_622 (by decide) (fun _ => K C1 M1 hI1) (fun c => absurd rfl c)

set_option maxHeartbeats 4000000 in
set_option maxRecDepth 20000 in
theorem law_c15 (L : Nat) (xs : Nat → Int32) (hL : L < 2 ^ 31) (i : Nat) (hi : i + 7 ≤ L) (hp : HP) (C M : List (Nat × AC)) (hI : CI C M) (Q : Option Value → HP → Prop) (K : ∀ C1 M1, CI C1 M1 → E (YL L xs) 8 872 [.ref 50, .ref 0, .ref 38, .int (nI i)] [] (hov (hov hp M1) C1) Q) : E (YL L xs) 8 627 [.ref 50, .ref 0, .ref 38, .int (nI i)] [] (hov (hov hp M) C) Q := by
  obtain ⟨r, hr⟩ := S_matter (xs (i + 1))  C M hI
  obtain ⟨fs0, hf0⟩ := CI_0 hI
  obtain ⟨fs1, hf1⟩ := CI_38 hI
  refine E_aload_n dL_law_627 rfl ?_
  refine E_aload_n dL_law_628 rfl ?_
  refine E_iload_n dL_law_629 rfl ?_
  refine E_iconst (v := 1) dL_law_630 (by decide) ?_
  refine E_iadd dL_law_631 ?_
  refine E_eqi (y := nI (i + 1)) (nI_add i 1) ?_
  refine E_sldN (j := i + 1) dL_law_632 rfl (by omega) hL ?_
  refine E_callV (As := [.int (xs (i + 1))]) (l' := [.ref 0, .int (xs (i + 1)), .null]) (st := []) (a := 0) dL_law_633 kL_82 iX6_matter vX6_matter (by decide) (hf0 _) rfl MX6_matter rfl rfl (Nat.le_of_ble_eq_true rfl) (E_isI (by decide) (by decide) (hr (hov hp M))) (Nat.le_of_ble_eq_true rfl) (fun v h hq => ?_)
  obtain ⟨⟨hv, C1, rfl, hk1, hm⟩, x, hx⟩ := hq
  subst hv
  obtain rfl : r = .int x := Option.some.inj hx
  rw [hov_swap hk1 (CI_kge hI)]
  show E _ _ 636 [.ref 50, .ref 0, .ref 38, .int (nI i)] [.int x] (hov (hov hp C1) M) _
  refine E_aload_n dL_law_636 rfl ?_
  refine E_aload_n dL_law_637 rfl ?_
  refine E_iload_n dL_law_638 rfl ?_
  refine E_iconst (v := 1) dL_law_639 (by decide) ?_
  refine E_iadd dL_law_640 ?_
  refine E_eqi (y := nI (i + 1)) (nI_add i 1) ?_
  refine E_sldN (j := i + 1) dL_law_641 rfl (by omega) hL ?_
  refine E_callV (As := [.int (xs (i + 1))]) (l' := [.ref 38, .int (xs (i + 1)), .null, .null]) (st := [.int x]) (a := 38) dL_law_642 kL_85 iX7_matter vX7_matter (by decide) (hf1 _) rfl MX7_matter rfl rfl (Nat.le_of_ble_eq_true rfl) (hm (hov hp C1)) (Nat.le_of_ble_eq_true rfl) (fun v h hq => ?_)
  obtain ⟨hv, M1, rfl, hI1⟩ := hq
  subst hv
  rw [← hov_swap (CI_klt hI1) (CI_kge hI1)]
  show E _ _ 645 [.ref 50, .ref 0, .ref 38, .int (nI i)] [.int x, .int x] (hov (hov hp M1) C1) _
  exact E_icmp_eq (tgt := 872) dL_law_645 (by decide) (fun _ => K C1 M1 hI1) (fun c => absurd rfl c)

set_option maxHeartbeats 4000000 in
set_option maxRecDepth 20000 in
theorem law_c16 (L : Nat) (xs : Nat → Int32) (hL : L < 2 ^ 31) (i : Nat) (hi : i + 7 ≤ L) (hp : HP) (C M : List (Nat × AC)) (hI : CI C M) (Q : Option Value → HP → Prop) (K : ∀ C1 M1, CI C1 M1 → E (YL L xs) 8 872 [.ref 50, .ref 0, .ref 38, .int (nI i)] [] (hov (hov hp M1) C1) Q) : E (YL L xs) 8 650 [.ref 50, .ref 0, .ref 38, .int (nI i)] [] (hov (hov hp M) C) Q := by
  obtain ⟨r, hr⟩ := S_ask (xs (i + 1))  C M hI
  obtain ⟨fs0, hf0⟩ := CI_0 hI
  obtain ⟨fs1, hf1⟩ := CI_38 hI
  refine E_aload_n dL_law_650 rfl ?_
  refine E_aload_n dL_law_651 rfl ?_
  refine E_iload_n dL_law_652 rfl ?_
  refine E_iconst (v := 1) dL_law_653 (by decide) ?_
  refine E_iadd dL_law_654 ?_
  refine E_eqi (y := nI (i + 1)) (nI_add i 1) ?_
  refine E_sldN (j := i + 1) dL_law_655 rfl (by omega) hL ?_
  refine E_callV (As := [.int (xs (i + 1))]) (l' := [.ref 0, .int (xs (i + 1)), .null, .null, .null, .null, .null]) (st := []) (a := 0) dL_law_656 kL_86 iX6_ask vX6_ask (by decide) (hf0 _) rfl MX6_ask rfl rfl (Nat.le_of_ble_eq_true rfl) (E_isI (by decide) (by decide) (hr (hov hp M))) (Nat.le_of_ble_eq_true rfl) (fun v h hq => ?_)
  obtain ⟨⟨hv, C1, rfl, hk1, hm⟩, x, hx⟩ := hq
  subst hv
  obtain rfl : r = .int x := Option.some.inj hx
  rw [hov_swap hk1 (CI_kge hI)]
  show E _ _ 659 [.ref 50, .ref 0, .ref 38, .int (nI i)] [.int x] (hov (hov hp C1) M) _
  refine E_aload_n dL_law_659 rfl ?_
  refine E_aload_n dL_law_660 rfl ?_
  refine E_iload_n dL_law_661 rfl ?_
  refine E_iconst (v := 1) dL_law_662 (by decide) ?_
  refine E_iadd dL_law_663 ?_
  refine E_eqi (y := nI (i + 1)) (nI_add i 1) ?_
  refine E_sldN (j := i + 1) dL_law_664 rfl (by omega) hL ?_
  refine E_callV (As := [.int (xs (i + 1))]) (l' := [.ref 38, .int (xs (i + 1)), .null, .null, .null, .null, .null, .null]) (st := [.int x]) (a := 38) dL_law_665 kL_89 iX7_ask vX7_ask (by decide) (hf1 _) rfl MX7_ask rfl rfl (Nat.le_of_ble_eq_true rfl) (hm (hov hp C1)) (Nat.le_of_ble_eq_true rfl) (fun v h hq => ?_)
  obtain ⟨hv, M1, rfl, hI1⟩ := hq
  subst hv
  rw [← hov_swap (CI_klt hI1) (CI_kge hI1)]
  show E _ _ 668 [.ref 50, .ref 0, .ref 38, .int (nI i)] [.int x, .int x] (hov (hov hp M1) C1) _
  exact E_icmp_eq (tgt := 872) dL_law_668 (by decide) (fun _ => K C1 M1 hI1) (fun c => absurd rfl c)

set_option maxHeartbeats 4000000 in
set_option maxRecDepth 20000 in
theorem law_c17 (L : Nat) (xs : Nat → Int32) (hL : L < 2 ^ 31) (i : Nat) (hi : i + 7 ≤ L) (hp : HP) (C M : List (Nat × AC)) (hI : CI C M) (Q : Option Value → HP → Prop) (K : ∀ C1 M1, CI C1 M1 → E (YL L xs) 8 872 [.ref 50, .ref 0, .ref 38, .int (nI i)] [] (hov (hov hp M1) C1) Q) : E (YL L xs) 8 673 [.ref 50, .ref 0, .ref 38, .int (nI i)] [] (hov (hov hp M) C) Q := by
  obtain ⟨r, hr⟩ := S_takes (xs (i + 1)) (xs (i + 2))  C M hI
  obtain ⟨fs0, hf0⟩ := CI_0 hI
  obtain ⟨fs1, hf1⟩ := CI_38 hI
  refine E_aload_n dL_law_673 rfl ?_
  refine E_aload_n dL_law_674 rfl ?_
  refine E_iload_n dL_law_675 rfl ?_
  refine E_iconst (v := 1) dL_law_676 (by decide) ?_
  refine E_iadd dL_law_677 ?_
  refine E_eqi (y := nI (i + 1)) (nI_add i 1) ?_
  refine E_sldN (j := i + 1) dL_law_678 rfl (by omega) hL ?_
  refine E_aload_n dL_law_679 rfl ?_
  refine E_iload_n dL_law_680 rfl ?_
  refine E_iconst (v := 2) dL_law_681 (by decide) ?_
  refine E_iadd dL_law_682 ?_
  refine E_eqi (y := nI (i + 2)) (nI_add i 2) ?_
  refine E_sldN (j := i + 2) dL_law_683 rfl (by omega) hL ?_
  refine E_callV (As := [.int (xs (i + 1)), .int (xs (i + 2))]) (l' := [.ref 0, .int (xs (i + 1)), .int (xs (i + 2)), .null]) (st := []) (a := 0) dL_law_684 kL_90 iX6_takes vX6_takes (by decide) (hf0 _) rfl MX6_takes rfl rfl (Nat.le_of_ble_eq_true rfl) (E_isI (by decide) (by decide) (hr (hov hp M))) (Nat.le_of_ble_eq_true rfl) (fun v h hq => ?_)
  obtain ⟨⟨hv, C1, rfl, hk1, hm⟩, x, hx⟩ := hq
  subst hv
  obtain rfl : r = .int x := Option.some.inj hx
  rw [hov_swap hk1 (CI_kge hI)]
  show E _ _ 687 [.ref 50, .ref 0, .ref 38, .int (nI i)] [.int x] (hov (hov hp C1) M) _
  refine E_aload_n dL_law_687 rfl ?_
  refine E_aload_n dL_law_688 rfl ?_
  refine E_iload_n dL_law_689 rfl ?_
  refine E_iconst (v := 1) dL_law_690 (by decide) ?_
  refine E_iadd dL_law_691 ?_
  refine E_eqi (y := nI (i + 1)) (nI_add i 1) ?_
  refine E_sldN (j := i + 1) dL_law_692 rfl (by omega) hL ?_
  refine E_aload_n dL_law_693 rfl ?_
  refine E_iload_n dL_law_694 rfl ?_
  refine E_iconst (v := 2) dL_law_695 (by decide) ?_
  refine E_iadd dL_law_696 ?_
  refine E_eqi (y := nI (i + 2)) (nI_add i 2) ?_
  refine E_sldN (j := i + 2) dL_law_697 rfl (by omega) hL ?_
  refine E_callV (As := [.int (xs (i + 1)), .int (xs (i + 2))]) (l' := [.ref 38, .int (xs (i + 1)), .int (xs (i + 2)), .null, .null]) (st := [.int x]) (a := 38) dL_law_698 kL_93 iX7_takes vX7_takes (by decide) (hf1 _) rfl MX7_takes rfl rfl (Nat.le_of_ble_eq_true rfl) (hm (hov hp C1)) (Nat.le_of_ble_eq_true rfl) (fun v h hq => ?_)
  obtain ⟨hv, M1, rfl, hI1⟩ := hq
  subst hv
  rw [← hov_swap (CI_klt hI1) (CI_kge hI1)]
  show E _ _ 701 [.ref 50, .ref 0, .ref 38, .int (nI i)] [.int x, .int x] (hov (hov hp M1) C1) _
  exact E_icmp_eq (tgt := 872) dL_law_701 (by decide) (fun _ => K C1 M1 hI1) (fun c => absurd rfl c)

set_option maxHeartbeats 4000000 in
set_option maxRecDepth 20000 in
theorem law_c18 (L : Nat) (xs : Nat → Int32) (hL : L < 2 ^ 31) (i : Nat) (hi : i + 7 ≤ L) (hp : HP) (C M : List (Nat × AC)) (hI : CI C M) (Q : Option Value → HP → Prop) (K : ∀ C1 M1, CI C1 M1 → E (YL L xs) 8 872 [.ref 50, .ref 0, .ref 38, .int (nI i)] [] (hov (hov hp M1) C1) Q) : E (YL L xs) 8 706 [.ref 50, .ref 0, .ref 38, .int (nI i)] [] (hov (hov hp M) C) Q := by
  obtain ⟨x, hr⟩ := S_lean (xs (i + 1)) (xs (i + 2)) (xs (i + 3)) (xs (i + 4))  C M hI
  obtain ⟨fs0, hf0⟩ := CI_0 hI
  obtain ⟨fs1, hf1⟩ := CI_38 hI
  refine E_aload_n dL_law_706 rfl ?_
  refine E_aload_n dL_law_707 rfl ?_
  refine E_iload_n dL_law_708 rfl ?_
  refine E_iconst (v := 1) dL_law_709 (by decide) ?_
  refine E_iadd dL_law_710 ?_
  refine E_eqi (y := nI (i + 1)) (nI_add i 1) ?_
  refine E_sldN (j := i + 1) dL_law_711 rfl (by omega) hL ?_
  refine E_aload_n dL_law_712 rfl ?_
  refine E_iload_n dL_law_713 rfl ?_
  refine E_iconst (v := 2) dL_law_714 (by decide) ?_
  refine E_iadd dL_law_715 ?_
  refine E_eqi (y := nI (i + 2)) (nI_add i 2) ?_
  refine E_sldN (j := i + 2) dL_law_716 rfl (by omega) hL ?_
  refine E_aload_n dL_law_717 rfl ?_
  refine E_iload_n dL_law_718 rfl ?_
  refine E_iconst (v := 3) dL_law_719 (by decide) ?_
  refine E_iadd dL_law_720 ?_
  refine E_eqi (y := nI (i + 3)) (nI_add i 3) ?_
  refine E_sldN (j := i + 3) dL_law_721 rfl (by omega) hL ?_
  refine E_aload_n dL_law_722 rfl ?_
  refine E_iload_n dL_law_723 rfl ?_
  refine E_iconst (v := 4) dL_law_724 (by decide) ?_
  refine E_iadd dL_law_725 ?_
  refine E_eqi (y := nI (i + 4)) (nI_add i 4) ?_
  refine E_sldN (j := i + 4) dL_law_726 rfl (by omega) hL ?_
  refine E_callV (As := [.int (xs (i + 1)), .int (xs (i + 2)), .int (xs (i + 3)), .int (xs (i + 4))]) (l' := [.ref 0, .int (xs (i + 1)), .int (xs (i + 2)), .int (xs (i + 3)), .int (xs (i + 4)), .null, .null, .null, .null, .null, .null]) (st := []) (a := 0) dL_law_727 kL_94 iX6_lean vX6_lean (by decide) (hf0 _) rfl MX6_lean rfl rfl (Nat.le_of_ble_eq_true rfl) (hr (hov hp M)) (Nat.le_of_ble_eq_true rfl) (fun v h hq => ?_)
  obtain ⟨hv, C1, rfl, hk1, hm⟩ := hq
  subst hv
  rw [hov_swap hk1 (CI_kge hI)]
  show E _ _ 730 [.ref 50, .ref 0, .ref 38, .int (nI i)] [.long x] (hov (hov hp C1) M) _
  refine E_aload_n dL_law_730 rfl ?_
  refine E_aload_n dL_law_731 rfl ?_
  refine E_iload_n dL_law_732 rfl ?_
  refine E_iconst (v := 1) dL_law_733 (by decide) ?_
  refine E_iadd dL_law_734 ?_
  refine E_eqi (y := nI (i + 1)) (nI_add i 1) ?_
  refine E_sldN (j := i + 1) dL_law_735 rfl (by omega) hL ?_
  refine E_aload_n dL_law_736 rfl ?_
  refine E_iload_n dL_law_737 rfl ?_
  refine E_iconst (v := 2) dL_law_738 (by decide) ?_
  refine E_iadd dL_law_739 ?_
  refine E_eqi (y := nI (i + 2)) (nI_add i 2) ?_
  refine E_sldN (j := i + 2) dL_law_740 rfl (by omega) hL ?_
  refine E_aload_n dL_law_741 rfl ?_
  refine E_iload_n dL_law_742 rfl ?_
  refine E_iconst (v := 3) dL_law_743 (by decide) ?_
  refine E_iadd dL_law_744 ?_
  refine E_eqi (y := nI (i + 3)) (nI_add i 3) ?_
  refine E_sldN (j := i + 3) dL_law_745 rfl (by omega) hL ?_
  refine E_aload_n dL_law_746 rfl ?_
  refine E_iload_n dL_law_747 rfl ?_
  refine E_iconst (v := 4) dL_law_748 (by decide) ?_
  refine E_iadd dL_law_749 ?_
  refine E_eqi (y := nI (i + 4)) (nI_add i 4) ?_
  refine E_sldN (j := i + 4) dL_law_750 rfl (by omega) hL ?_
  refine E_callV (As := [.int (xs (i + 1)), .int (xs (i + 2)), .int (xs (i + 3)), .int (xs (i + 4))]) (l' := [.ref 38, .int (xs (i + 1)), .int (xs (i + 2)), .int (xs (i + 3)), .int (xs (i + 4)), .null, .null, .null, .null, .null]) (st := [.long x]) (a := 38) dL_law_751 kL_98 iX7_lean vX7_lean (by decide) (hf1 _) rfl MX7_lean rfl rfl (Nat.le_of_ble_eq_true rfl) (hm (hov hp C1)) (Nat.le_of_ble_eq_true rfl) (fun v h hq => ?_)
  obtain ⟨hv, M1, rfl, hI1⟩ := hq
  subst hv
  rw [← hov_swap (CI_klt hI1) (CI_kge hI1)]
  show E _ _ 754 [.ref 50, .ref 0, .ref 38, .int (nI i)] [.long x, .long x] (hov (hov hp M1) C1) _
  refine E_lcmp dL_law_754 ?_
  refine E_eqi (y := 0) (lcmp_self x) ?_
  exact E_if_eq (tgt := 872) dL_law_755 (by decide) (fun _ => K C1 M1 hI1) (fun c => absurd rfl c)

set_option maxHeartbeats 4000000 in
set_option maxRecDepth 20000 in
theorem law_c19 (L : Nat) (xs : Nat → Int32) (hL : L < 2 ^ 31) (i : Nat) (hi : i + 7 ≤ L) (hp : HP) (C M : List (Nat × AC)) (hI : CI C M) (Q : Option Value → HP → Prop) (K : ∀ C1 M1, CI C1 M1 → E (YL L xs) 8 872 [.ref 50, .ref 0, .ref 38, .int (nI i)] [] (hov (hov hp M1) C1) Q) : E (YL L xs) 8 760 [.ref 50, .ref 0, .ref 38, .int (nI i)] [] (hov (hov hp M) C) Q := by
  obtain ⟨r, hr⟩ := S_year (xs (i + 1)) (xs (i + 2)) (xs (i + 3))  C M hI
  obtain ⟨fs0, hf0⟩ := CI_0 hI
  obtain ⟨fs1, hf1⟩ := CI_38 hI
  refine E_aload_n dL_law_760 rfl ?_
  refine E_aload_n dL_law_761 rfl ?_
  refine E_iload_n dL_law_762 rfl ?_
  refine E_iconst (v := 1) dL_law_763 (by decide) ?_
  refine E_iadd dL_law_764 ?_
  refine E_eqi (y := nI (i + 1)) (nI_add i 1) ?_
  refine E_sldN (j := i + 1) dL_law_765 rfl (by omega) hL ?_
  refine E_aload_n dL_law_766 rfl ?_
  refine E_iload_n dL_law_767 rfl ?_
  refine E_iconst (v := 2) dL_law_768 (by decide) ?_
  refine E_iadd dL_law_769 ?_
  refine E_eqi (y := nI (i + 2)) (nI_add i 2) ?_
  refine E_sldN (j := i + 2) dL_law_770 rfl (by omega) hL ?_
  refine E_aload_n dL_law_771 rfl ?_
  refine E_iload_n dL_law_772 rfl ?_
  refine E_iconst (v := 3) dL_law_773 (by decide) ?_
  refine E_iadd dL_law_774 ?_
  refine E_eqi (y := nI (i + 3)) (nI_add i 3) ?_
  refine E_sldN (j := i + 3) dL_law_775 rfl (by omega) hL ?_
  refine E_callV (As := [.int (xs (i + 1)), .int (xs (i + 2)), .int (xs (i + 3))]) (l' := [.ref 0, .int (xs (i + 1)), .int (xs (i + 2)), .int (xs (i + 3)), .null, .null, .null, .null, .null, .null]) (st := []) (a := 0) dL_law_776 kL_99 iX6_year vX6_year (by decide) (hf0 _) rfl MX6_year rfl rfl (Nat.le_of_ble_eq_true rfl) (E_isI (by decide) (by decide) (hr (hov hp M))) (Nat.le_of_ble_eq_true rfl) (fun v h hq => ?_)
  obtain ⟨⟨hv, C1, rfl, hk1, hm⟩, x, hx⟩ := hq
  subst hv
  obtain rfl : r = .int x := Option.some.inj hx
  rw [hov_swap hk1 (CI_kge hI)]
  show E _ _ 779 [.ref 50, .ref 0, .ref 38, .int (nI i)] [.int x] (hov (hov hp C1) M) _
  refine E_aload_n dL_law_779 rfl ?_
  refine E_aload_n dL_law_780 rfl ?_
  refine E_iload_n dL_law_781 rfl ?_
  refine E_iconst (v := 1) dL_law_782 (by decide) ?_
  refine E_iadd dL_law_783 ?_
  refine E_eqi (y := nI (i + 1)) (nI_add i 1) ?_
  refine E_sldN (j := i + 1) dL_law_784 rfl (by omega) hL ?_
  refine E_aload_n dL_law_785 rfl ?_
  refine E_iload_n dL_law_786 rfl ?_
  refine E_iconst (v := 2) dL_law_787 (by decide) ?_
  refine E_iadd dL_law_788 ?_
  refine E_eqi (y := nI (i + 2)) (nI_add i 2) ?_
  refine E_sldN (j := i + 2) dL_law_789 rfl (by omega) hL ?_
  refine E_aload_n dL_law_790 rfl ?_
  refine E_iload_n dL_law_791 rfl ?_
  refine E_iconst (v := 3) dL_law_792 (by decide) ?_
  refine E_iadd dL_law_793 ?_
  refine E_eqi (y := nI (i + 3)) (nI_add i 3) ?_
  refine E_sldN (j := i + 3) dL_law_794 rfl (by omega) hL ?_
  refine E_callV (As := [.int (xs (i + 1)), .int (xs (i + 2)), .int (xs (i + 3))]) (l' := [.ref 38, .int (xs (i + 1)), .int (xs (i + 2)), .int (xs (i + 3)), .null, .null, .null]) (st := [.int x]) (a := 38) dL_law_795 kL_102 iX7_year vX7_year (by decide) (hf1 _) rfl MX7_year rfl rfl (Nat.le_of_ble_eq_true rfl) (hm (hov hp C1)) (Nat.le_of_ble_eq_true rfl) (fun v h hq => ?_)
  obtain ⟨hv, M1, rfl, hI1⟩ := hq
  subst hv
  rw [← hov_swap (CI_klt hI1) (CI_kge hI1)]
  show E _ _ 798 [.ref 50, .ref 0, .ref 38, .int (nI i)] [.int x, .int x] (hov (hov hp M1) C1) _
  exact E_icmp_eq (tgt := 872) dL_law_798 (by decide) (fun _ => K C1 M1 hI1) (fun c => absurd rfl c)

set_option maxHeartbeats 4000000 in
set_option maxRecDepth 20000 in
theorem law_c20 (L : Nat) (xs : Nat → Int32) (hL : L < 2 ^ 31) (i : Nat) (hi : i + 7 ≤ L) (hp : HP) (C M : List (Nat × AC)) (hI : CI C M) (Q : Option Value → HP → Prop) (K : ∀ C1 M1, CI C1 M1 → E (YL L xs) 8 872 [.ref 50, .ref 0, .ref 38, .int (nI i)] [] (hov (hov hp M1) C1) Q) : E (YL L xs) 8 803 [.ref 50, .ref 0, .ref 38, .int (nI i)] [] (hov (hov hp M) C) Q := by
  obtain ⟨r, hr⟩ := S_image (xs (i + 1))  C M hI
  obtain ⟨fs0, hf0⟩ := CI_0 hI
  obtain ⟨fs1, hf1⟩ := CI_38 hI
  refine E_aload_n dL_law_803 rfl ?_
  refine E_aload_n dL_law_804 rfl ?_
  refine E_iload_n dL_law_805 rfl ?_
  refine E_iconst (v := 1) dL_law_806 (by decide) ?_
  refine E_iadd dL_law_807 ?_
  refine E_eqi (y := nI (i + 1)) (nI_add i 1) ?_
  refine E_sldN (j := i + 1) dL_law_808 rfl (by omega) hL ?_
  refine E_callV (As := [.int (xs (i + 1))]) (l' := [.ref 0, .int (xs (i + 1)), .null]) (st := []) (a := 0) dL_law_809 kL_103 iX6_image vX6_image (by decide) (hf0 _) rfl MX6_image rfl rfl (Nat.le_of_ble_eq_true rfl) (E_isI (by decide) (by decide) (hr (hov hp M))) (Nat.le_of_ble_eq_true rfl) (fun v h hq => ?_)
  obtain ⟨⟨hv, C1, rfl, hk1, hm⟩, x, hx⟩ := hq
  subst hv
  obtain rfl : r = .int x := Option.some.inj hx
  rw [hov_swap hk1 (CI_kge hI)]
  show E _ _ 812 [.ref 50, .ref 0, .ref 38, .int (nI i)] [.int x] (hov (hov hp C1) M) _
  refine E_aload_n dL_law_812 rfl ?_
  refine E_aload_n dL_law_813 rfl ?_
  refine E_iload_n dL_law_814 rfl ?_
  refine E_iconst (v := 1) dL_law_815 (by decide) ?_
  refine E_iadd dL_law_816 ?_
  refine E_eqi (y := nI (i + 1)) (nI_add i 1) ?_
  refine E_sldN (j := i + 1) dL_law_817 rfl (by omega) hL ?_
  refine E_callV (As := [.int (xs (i + 1))]) (l' := [.ref 38, .int (xs (i + 1)), .null, .null]) (st := [.int x]) (a := 38) dL_law_818 kL_106 iX7_image vX7_image (by decide) (hf1 _) rfl MX7_image rfl rfl (Nat.le_of_ble_eq_true rfl) (hm (hov hp C1)) (Nat.le_of_ble_eq_true rfl) (fun v h hq => ?_)
  obtain ⟨hv, M1, rfl, hI1⟩ := hq
  subst hv
  rw [← hov_swap (CI_klt hI1) (CI_kge hI1)]
  show E _ _ 821 [.ref 50, .ref 0, .ref 38, .int (nI i)] [.int x, .int x] (hov (hov hp M1) C1) _
  exact E_icmp_eq (tgt := 872) dL_law_821 (by decide) (fun _ => K C1 M1 hI1) (fun c => absurd rfl c)

set_option maxHeartbeats 4000000 in
set_option maxRecDepth 20000 in
theorem law_c21 (L : Nat) (xs : Nat → Int32) (hL : L < 2 ^ 31) (i : Nat) (hi : i + 7 ≤ L) (hp : HP) (C M : List (Nat × AC)) (hI : CI C M) (Q : Option Value → HP → Prop) (K : ∀ C1 M1, CI C1 M1 → E (YL L xs) 8 872 [.ref 50, .ref 0, .ref 38, .int (nI i)] [] (hov (hov hp M1) C1) Q) : E (YL L xs) 8 826 [.ref 50, .ref 0, .ref 38, .int (nI i)] [] (hov (hov hp M) C) Q := by
  obtain ⟨r, hr⟩ := S_restore (xs (i + 1))  C M hI
  obtain ⟨fs0, hf0⟩ := CI_0 hI
  obtain ⟨fs1, hf1⟩ := CI_38 hI
  refine E_aload_n dL_law_826 rfl ?_
  refine E_aload_n dL_law_827 rfl ?_
  refine E_iload_n dL_law_828 rfl ?_
  refine E_iconst (v := 1) dL_law_829 (by decide) ?_
  refine E_iadd dL_law_830 ?_
  refine E_eqi (y := nI (i + 1)) (nI_add i 1) ?_
  refine E_sldN (j := i + 1) dL_law_831 rfl (by omega) hL ?_
  refine E_callV (As := [.int (xs (i + 1))]) (l' := [.ref 0, .int (xs (i + 1)), .null]) (st := []) (a := 0) dL_law_832 kL_107 iX6_restore vX6_restore (by decide) (hf0 _) rfl MX6_restore rfl rfl (Nat.le_of_ble_eq_true rfl) (E_isI (by decide) (by decide) (hr (hov hp M))) (Nat.le_of_ble_eq_true rfl) (fun v h hq => ?_)
  obtain ⟨⟨hv, C1, rfl, hk1, hm⟩, x, hx⟩ := hq
  subst hv
  obtain rfl : r = .int x := Option.some.inj hx
  rw [hov_swap hk1 (CI_kge hI)]
  show E _ _ 835 [.ref 50, .ref 0, .ref 38, .int (nI i)] [.int x] (hov (hov hp C1) M) _
  refine E_aload_n dL_law_835 rfl ?_
  refine E_aload_n dL_law_836 rfl ?_
  refine E_iload_n dL_law_837 rfl ?_
  refine E_iconst (v := 1) dL_law_838 (by decide) ?_
  refine E_iadd dL_law_839 ?_
  refine E_eqi (y := nI (i + 1)) (nI_add i 1) ?_
  refine E_sldN (j := i + 1) dL_law_840 rfl (by omega) hL ?_
  refine E_callV (As := [.int (xs (i + 1))]) (l' := [.ref 38, .int (xs (i + 1)), .null, .null]) (st := [.int x]) (a := 38) dL_law_841 kL_110 iX7_restore vX7_restore (by decide) (hf1 _) rfl MX7_restore rfl rfl (Nat.le_of_ble_eq_true rfl) (hm (hov hp C1)) (Nat.le_of_ble_eq_true rfl) (fun v h hq => ?_)
  obtain ⟨hv, M1, rfl, hI1⟩ := hq
  subst hv
  rw [← hov_swap (CI_klt hI1) (CI_kge hI1)]
  show E _ _ 844 [.ref 50, .ref 0, .ref 38, .int (nI i)] [.int x, .int x] (hov (hov hp M1) C1) _
  exact E_icmp_eq (tgt := 872) dL_law_844 (by decide) (fun _ => K C1 M1 hI1) (fun c => absurd rfl c)

set_option maxHeartbeats 4000000 in
set_option maxRecDepth 20000 in
theorem law_c22 (L : Nat) (xs : Nat → Int32) (hL : L < 2 ^ 31) (i : Nat) (hi : i + 7 ≤ L) (hp : HP) (C M : List (Nat × AC)) (hI : CI C M) (Q : Option Value → HP → Prop) (K : ∀ C1 M1, CI C1 M1 → E (YL L xs) 8 872 [.ref 50, .ref 0, .ref 38, .int (nI i)] [] (hov (hov hp M1) C1) Q) : E (YL L xs) 8 849 [.ref 50, .ref 0, .ref 38, .int (nI i)] [] (hov (hov hp M) C) Q := by
  obtain ⟨r, hr⟩ := S_told (xs (i + 1))  C M hI
  obtain ⟨fs0, hf0⟩ := CI_0 hI
  obtain ⟨fs1, hf1⟩ := CI_38 hI
  refine E_aload_n dL_law_849 rfl ?_
  refine E_aload_n dL_law_850 rfl ?_
  refine E_iload_n dL_law_851 rfl ?_
  refine E_iconst (v := 1) dL_law_852 (by decide) ?_
  refine E_iadd dL_law_853 ?_
  refine E_eqi (y := nI (i + 1)) (nI_add i 1) ?_
  refine E_sldN (j := i + 1) dL_law_854 rfl (by omega) hL ?_
  refine E_callV (As := [.int (xs (i + 1))]) (l' := [.ref 0, .int (xs (i + 1))]) (st := []) (a := 0) dL_law_855 kL_111 iX6_told vX6_told (by decide) (hf0 _) rfl MX6_told rfl rfl (Nat.le_of_ble_eq_true rfl) (E_isI (by decide) (by decide) (hr (hov hp M))) (Nat.le_of_ble_eq_true rfl) (fun v h hq => ?_)
  obtain ⟨⟨hv, C1, rfl, hk1, hm⟩, x, hx⟩ := hq
  subst hv
  obtain rfl : r = .int x := Option.some.inj hx
  rw [hov_swap hk1 (CI_kge hI)]
  show E _ _ 858 [.ref 50, .ref 0, .ref 38, .int (nI i)] [.int x] (hov (hov hp C1) M) _
  refine E_aload_n dL_law_858 rfl ?_
  refine E_aload_n dL_law_859 rfl ?_
  refine E_iload_n dL_law_860 rfl ?_
  refine E_iconst (v := 1) dL_law_861 (by decide) ?_
  refine E_iadd dL_law_862 ?_
  refine E_eqi (y := nI (i + 1)) (nI_add i 1) ?_
  refine E_sldN (j := i + 1) dL_law_863 rfl (by omega) hL ?_
  refine E_callV (As := [.int (xs (i + 1))]) (l' := [.ref 38, .int (xs (i + 1)), .null]) (st := [.int x]) (a := 38) dL_law_864 kL_114 iX7_told vX7_told (by decide) (hf1 _) rfl MX7_told rfl rfl (Nat.le_of_ble_eq_true rfl) (hm (hov hp C1)) (Nat.le_of_ble_eq_true rfl) (fun v h hq => ?_)
  obtain ⟨hv, M1, rfl, hI1⟩ := hq
  subst hv
  rw [← hov_swap (CI_klt hI1) (CI_kge hI1)]
  show E _ _ 867 [.ref 50, .ref 0, .ref 38, .int (nI i)] [.int x, .int x] (hov (hov hp M1) C1) _
  exact E_icmp_eq (tgt := 872) dL_law_867 (by decide) (fun _ => K C1 M1 hI1) (fun c => absurd rfl c)

set_option maxHeartbeats 4000000 in
set_option maxRecDepth 20000 in
theorem law_loop (L : Nat) (xs : Nat → Int32) (hL : L ≤ 448) : ∀ (k i : Nat) (hp : HP) (C M : List (Nat × AC)), CI C M → i ≤ L → L < i + k → E (YL L xs) 8 18 [.ref 50, .ref 0, .ref 38, .int (nI i)] [] (hov (hov hp M) C) (fun v _ => v = some (.int 1)) := by
  intro k
  induction k with
  | zero => intro i hp C M hI h1 h2; omega
  | succ k ih =>
    intro i hp C M hI h1 h2
    refine E_iload_n dL_law_18 rfl ?_
    refine E_aload_n dL_law_19 rfl ?_
    refine E_slen dL_law_20 rfl (v := nI L) rfl ?_
    refine E_bipush (v := 7) dL_law_21 (by decide) ?_
    refine E_isub dL_law_23 ?_
    refine E_icmp_gt (tgt := 878) dL_law_24 (by decide) (fun _ => ?_) (fun c => ?_)
    · refine E_iconst (v := 1) dL_law_878 (by decide) ?_
      exact E_iret (st := []) dL_law_879 rfl rfl rfl
    · have h7 : i + 7 ≤ L := by
        rw [Int32.lt_iff_toInt_lt, show (7 : Int32) = nI 7 from rfl, pk_sub_toInt (by omega) (by decide), nI_toInt (by omega)] at c
        omega
      have K : ∀ C1 M1, CI C1 M1 → E (YL L xs) 8 872 [.ref 50, .ref 0, .ref 38, .int (nI i)] [] (hov (hov hp M1) C1) (fun v _ => v = some (.int 1)) := by
        intro C1 M1 hI1
        refine E_iinc (y := nI (i + 7)) (l2 := [.ref 50, .ref 0, .ref 38, .int (nI (i + 7))]) dL_law_872 rfl (nI_add _ 7) (Nat.le_of_ble_eq_true rfl) rfl ?_
        refine E_goto (tgt := 18) dL_law_875 (by decide) ?_
        exact ih (i + 7) hp C1 M1 hI1 (by omega) (by omega)
      refine E_aload_n dL_law_27 rfl ?_
      refine E_iload_n dL_law_28 rfl ?_
      refine E_sldN (j := i) dL_law_29 rfl (by omega) (by omega) ?_
      refine E_bipush (v := 31) dL_law_30 (by decide) ?_
      refine E_iand dL_law_32 ?_
      obtain ⟨j, hj, ej⟩ := and31 (xs i)
      refine E_eqi ej ?_
      rcases (show j = 0 ∨ j = 1 ∨ j = 2 ∨ j = 3 ∨ j = 4 ∨ j = 5 ∨ j = 6 ∨ j = 7 ∨ j = 8 ∨ j = 9 ∨ j = 10 ∨ j = 11 ∨ j = 12 ∨ j = 13 ∨ j = 14 ∨ j = 15 ∨ j = 16 ∨ j = 17 ∨ j = 18 ∨ j = 19 ∨ j = 20 ∨ j = 21 ∨ j = 22 ∨ 23 ≤ j by omega) with rfl | rfl | rfl | rfl | rfl | rfl | rfl | rfl | rfl | rfl | rfl | rfl | rfl | rfl | rfl | rfl | rfl | rfl | rfl | rfl | rfl | rfl | rfl | h23
      · refine E_tableIn (off := 107) (tgt := 140) dL_law_33 (by decide) (by decide) (by decide) (by decide) ?_
        exact law_c0 L xs (by omega) i h7 hp C M hI _ K
      · refine E_tableIn (off := 160) (tgt := 193) dL_law_33 (by decide) (by decide) (by decide) (by decide) ?_
        exact law_c1 L xs (by omega) i h7 hp C M hI _ K
      · refine E_tableIn (off := 183) (tgt := 216) dL_law_33 (by decide) (by decide) (by decide) (by decide) ?_
        exact law_c2 L xs (by omega) i h7 hp C M hI _ K
      · refine E_tableIn (off := 206) (tgt := 239) dL_law_33 (by decide) (by decide) (by decide) (by decide) ?_
        exact law_c3 L xs (by omega) i h7 hp C M hI _ K
      · refine E_tableIn (off := 219) (tgt := 252) dL_law_33 (by decide) (by decide) (by decide) (by decide) ?_
        exact law_c4 L xs (by omega) i h7 hp C M hI _ K
      · refine E_tableIn (off := 232) (tgt := 265) dL_law_33 (by decide) (by decide) (by decide) (by decide) ?_
        exact law_c5 L xs (by omega) i h7 hp C M hI _ K
      · refine E_tableIn (off := 255) (tgt := 288) dL_law_33 (by decide) (by decide) (by decide) (by decide) ?_
        exact law_c6 L xs (by omega) i h7 hp C M hI _ K
      · refine E_tableIn (off := 268) (tgt := 301) dL_law_33 (by decide) (by decide) (by decide) (by decide) ?_
        exact law_c7 L xs (by omega) i h7 hp C M hI _ K
      · refine E_tableIn (off := 301) (tgt := 334) dL_law_33 (by decide) (by decide) (by decide) (by decide) ?_
        exact law_c8 L xs (by omega) i h7 hp C M hI _ K
      · refine E_tableIn (off := 324) (tgt := 357) dL_law_33 (by decide) (by decide) (by decide) (by decide) ?_
        exact law_c9 L xs (by omega) i h7 hp C M hI _ K
      · refine E_tableIn (off := 347) (tgt := 380) dL_law_33 (by decide) (by decide) (by decide) (by decide) ?_
        exact law_c10 L xs (by omega) i h7 hp C M hI _ K
      · refine E_tableIn (off := 390) (tgt := 423) dL_law_33 (by decide) (by decide) (by decide) (by decide) ?_
        exact law_c11 L xs (by omega) i h7 hp C M hI _ K
      · refine E_tableIn (off := 473) (tgt := 506) dL_law_33 (by decide) (by decide) (by decide) (by decide) ?_
        exact law_c12 L xs (by omega) i h7 hp C M hI _ K
      · refine E_tableIn (off := 548) (tgt := 581) dL_law_33 (by decide) (by decide) (by decide) (by decide) ?_
        exact law_c13 L xs (by omega) i h7 hp C M hI _ K
      · refine E_tableIn (off := 581) (tgt := 614) dL_law_33 (by decide) (by decide) (by decide) (by decide) ?_
        exact law_c14 L xs (by omega) i h7 hp C M hI _ K
      · refine E_tableIn (off := 594) (tgt := 627) dL_law_33 (by decide) (by decide) (by decide) (by decide) ?_
        exact law_c15 L xs (by omega) i h7 hp C M hI _ K
      · refine E_tableIn (off := 617) (tgt := 650) dL_law_33 (by decide) (by decide) (by decide) (by decide) ?_
        exact law_c16 L xs (by omega) i h7 hp C M hI _ K
      · refine E_tableIn (off := 640) (tgt := 673) dL_law_33 (by decide) (by decide) (by decide) (by decide) ?_
        exact law_c17 L xs (by omega) i h7 hp C M hI _ K
      · refine E_tableIn (off := 673) (tgt := 706) dL_law_33 (by decide) (by decide) (by decide) (by decide) ?_
        exact law_c18 L xs (by omega) i h7 hp C M hI _ K
      · refine E_tableIn (off := 727) (tgt := 760) dL_law_33 (by decide) (by decide) (by decide) (by decide) ?_
        exact law_c19 L xs (by omega) i h7 hp C M hI _ K
      · refine E_tableIn (off := 770) (tgt := 803) dL_law_33 (by decide) (by decide) (by decide) (by decide) ?_
        exact law_c20 L xs (by omega) i h7 hp C M hI _ K
      · refine E_tableIn (off := 793) (tgt := 826) dL_law_33 (by decide) (by decide) (by decide) (by decide) ?_
        exact law_c21 L xs (by omega) i h7 hp C M hI _ K
      · refine E_tableIn (off := 816) (tgt := 849) dL_law_33 (by decide) (by decide) (by decide) (by decide) ?_
        exact law_c22 L xs (by omega) i h7 hp C M hI _ K
      · refine E_tableOut (tgt := 872) dL_law_33 (Or.inr (by rw [nI_toInt (by omega)]; omega)) (by decide) ?_
        exact K C M hI
