theorem mit_k {ok : Int32 → Bool} : ∀ i, ∃ k, k ≤ i ∧ mit ok i = nI k
  | 0 => ⟨0, Nat.le_refl _, rfl⟩
  | i + 1 => by
    obtain ⟨k, hk, e⟩ := mit_k (ok := ok) i
    rw [mit]
    cases (decide (bcI (mit ok i) < bcI (nI (i + 1))) && ok (nI (i + 1))) with
    | true => exact ⟨i + 1, Nat.le_refl _, rfl⟩
    | false => exact ⟨k, by omega, e⟩
theorem mit_b8 {ok : Int32 → Bool} (i : Nat) (hi : i < 256) : bitN (mit ok i) 8 = bcI (mit ok i) := by
  obtain ⟨k, hk, e⟩ := mit_k (ok := ok) i
  rw [e]; exact bits_bc k (by omega)

set_option maxHeartbeats 4000000 in
set_option maxRecDepth 20000 in
theorem m_due_0 (d : Nat) (bu fl fa fw fr rs ac : Int32) (q pn : Nat) (tk du : Nat → Int32) (x : Int32) (z : Int64) (n : Nat) (hn : n ≤ 8) (h0 : inI (nI n) 1 8 = true) (hx : 0 < x) (hr : (rn n x tk).1 = true) (hz : 0 ≤ z) (hd : (rd n z du).1 = true) (dv : Nat → Nat) (hdd : ∀ j, j < n → (rd n z du).2 j = nI (dv j) ∧ dv j ≤ 99) (nv : Nat → Nat) (hdn : ∀ j, j < n → (rn n x tk).2 j = nI (nv j) ∧ nv j ≤ 9) : FC YX7_due (d + 2) [.ref 38, .int x, .long z, .null, .int (nI n), .int 0, .null, .null, .null, .null, .null, .null] [(38, .inr (7, [.ref 39, .ref 40, .int bu, .int (nI q), .ref 41, .int (nI pn), .ref 42, .int fl, .int fa, .int fw, .int fr, .int rs, .int ac, .ref 43, .ref 44, .ref 45, .ref 46, .ref 47, .ref 48, .ref 49])), (43, .inl (false, 8, tk)), (44, .inl (false, 8, du))] (some (.int (bcI (mit (fun x => allB (cbP nv dv n x) n) (2 ^ n - 1))))) [(38, .inr (7, [.ref 39, .ref 40, .int bu, .int (nI q), .ref 41, .int (nI pn), .ref 42, .int fl, .int fa, .int fw, .int fr, .int rs, .int ac, .ref 43, .ref 44, .ref 45, .ref 46, .ref 47, .ref 48, .ref 49])), (43, .inl (false, 8, (rn n x tk).2)), (44, .inl (false, 8, (rd n z du).2))] := by
  intro hp
  have hpw : 1 ≤ 2 ^ n := Nat.pos_of_ne_zero (by simp)
  have hpw2 : 2 ^ n ≤ 2 ^ 8 := Nat.pow_le_pow_right (by decide) hn
  have LC : ∀ i, i ≤ 2 ^ n - 1 → ∀ (y9 : Int32) (b9 : Int64), E YX7_due (d + 2) 150 [.ref 38, .int x, .long z, .null, .int (nI n), .int 0, .int 1, .int y9, .long b9, .null, .int (mit (fun x => allB (cbP nv dv n x) n) i), .int (nI (i + 1))] [] (hov hp [(38, .inr (7, [.ref 39, .ref 40, .int bu, .int (nI q), .ref 41, .int (nI pn), .ref 42, .int fl, .int fa, .int fw, .int fr, .int rs, .int ac, .ref 43, .ref 44, .ref 45, .ref 46, .ref 47, .ref 48, .ref 49])), (43, .inl (false, 8, (rn n x tk).2)), (44, .inl (false, 8, (rd n z du).2))]) (fun v h' => v = some (.int (bcI (mit (fun x => allB (cbP nv dv n x) n) (2 ^ n - 1)))) ∧ h' = hov hp [(38, .inr (7, [.ref 39, .ref 40, .int bu, .int (nI q), .ref 41, .int (nI pn), .ref 42, .int fl, .int fa, .int fw, .int fr, .int rs, .int ac, .ref 43, .ref 44, .ref 45, .ref 46, .ref 47, .ref 48, .ref 49])), (43, .inl (false, 8, (rn n x tk).2)), (44, .inl (false, 8, (rd n z du).2))]) := by
    refine down (2 ^ n - 1) ?_ ?_
    · intro y9 b9
      refine E_iload dX7_due_150 rfl ?_
      refine E_iconst (v := 1) dX7_due_152 (by decide) ?_
      refine E_iload dX7_due_153 rfl ?_
      refine E_ishl dX7_due_155 ?_
      refine E_eqi (y := nI (2 ^ n)) (shl8 n (by omega)) ?_
      refine E_icmp_ge (tgt := 198) dX7_due_156 (by decide) (fun _ => ?_) (fun c => absurd (nI_le (by omega) (by omega)) c)
      refine E_iload dX7_due_198 rfl ?_
      refine E_if_ne (tgt := 211) dX7_due_200 (by decide) (fun c => by first | exact absurd c (by decide) | exact absurd (by decide) c) (fun _ => ?_)
      refine E_iload dX7_due_203 rfl ?_
      refine E_callS (As := [.int (mit (fun x => allB (cbP nv dv n x) n) (2 ^ n - 1))]) (l' := [.int (mit (fun x => allB (cbP nv dv n x) n) (2 ^ n - 1)), .null, .null]) (st := []) dX7_due_205 kX7_56 sX7_bits MX7_bits rfl rfl (Nat.le_of_ble_eq_true rfl) (FC.use (c_bits (d + 1) _) rfl (L2 := [(38, .inr (7, [.ref 39, .ref 40, .int bu, .int (nI q), .ref 41, .int (nI pn), .ref 42, .int fl, .int fa, .int fw, .int fr, .int rs, .int ac, .ref 43, .ref 44, .ref 45, .ref 46, .ref 47, .ref 48, .ref 49])), (43, .inl (false, 8, (rn n x tk).2)), (44, .inl (false, 8, (rd n z du).2))]) rfl) (Nat.le_of_ble_eq_true rfl) (fun _ _ hq9 => E_fgo ?_ hq9)
      show E _ _ 208 [.ref 38, .int x, .long z, .null, .int (nI n), .int 0, .int 1, .int y9, .long b9, .null, .int (mit (fun x => allB (cbP nv dv n x) n) (2 ^ n - 1)), .int (nI ((2 ^ n - 1) + 1))] [.int (bitN (mit (fun x => allB (cbP nv dv n x) n) (2 ^ n - 1)) 8)] (hov hp [(38, .inr (7, [.ref 39, .ref 40, .int bu, .int (nI q), .ref 41, .int (nI pn), .ref 42, .int fl, .int fa, .int fw, .int fr, .int rs, .int ac, .ref 43, .ref 44, .ref 45, .ref 46, .ref 47, .ref 48, .ref 49])), (43, .inl (false, 8, (rn n x tk).2)), (44, .inl (false, 8, (rd n z du).2))]) _
      refine E_eqi (y := bcI (mit (fun x => allB (cbP nv dv n x) n) (2 ^ n - 1))) (mit_b8 _ (by omega)) ?_
      refine E_goto (tgt := 213) dX7_due_208 (by decide) ?_
      exact E_iretf dX7_due_213 rfl rfl rfl rfl
    · intro i hi ih y9 b9
      refine E_iload dX7_due_150 rfl ?_
      refine E_iconst (v := 1) dX7_due_152 (by decide) ?_
      refine E_iload dX7_due_153 rfl ?_
      refine E_ishl dX7_due_155 ?_
      refine E_eqi (y := nI (2 ^ n)) (shl8 n (by omega)) ?_
      refine E_icmp_ge (tgt := 198) dX7_due_156 (by decide) (fun c => absurd c (nI_ge (by omega) (by omega))) (fun _ => ?_)
      refine E_iload dX7_due_159 rfl ?_
      refine E_callS (As := [.int (nI (i + 1))]) (l' := [.int (nI (i + 1)), .null, .null]) (st := []) dX7_due_161 kX7_56 sX7_bits MX7_bits rfl rfl (Nat.le_of_ble_eq_true rfl) (FC.use (c_bits (d + 1) _) rfl (L2 := [(38, .inr (7, [.ref 39, .ref 40, .int bu, .int (nI q), .ref 41, .int (nI pn), .ref 42, .int fl, .int fa, .int fw, .int fr, .int rs, .int ac, .ref 43, .ref 44, .ref 45, .ref 46, .ref 47, .ref 48, .ref 49])), (43, .inl (false, 8, (rn n x tk).2)), (44, .inl (false, 8, (rd n z du).2))]) rfl) (Nat.le_of_ble_eq_true rfl) (fun _ _ hq9 => E_fgo ?_ hq9)
      show E _ _ 164 [.ref 38, .int x, .long z, .null, .int (nI n), .int 0, .int 1, .int y9, .long b9, .null, .int (mit (fun x => allB (cbP nv dv n x) n) i), .int (nI (i + 1))] [.int (bitN (nI (i + 1)) 8)] (hov hp [(38, .inr (7, [.ref 39, .ref 40, .int bu, .int (nI q), .ref 41, .int (nI pn), .ref 42, .int fl, .int fa, .int fw, .int fr, .int rs, .int ac, .ref 43, .ref 44, .ref 45, .ref 46, .ref 47, .ref 48, .ref 49])), (43, .inl (false, 8, (rn n x tk).2)), (44, .inl (false, 8, (rd n z du).2))]) _
      refine E_eqi (y := bcI (nI (i + 1))) (bits_bc (i + 1) (by omega)) ?_
      refine E_iload dX7_due_164 rfl ?_
      refine E_callS (As := [.int (mit (fun x => allB (cbP nv dv n x) n) i)]) (l' := [.int (mit (fun x => allB (cbP nv dv n x) n) i), .null, .null]) (st := [.int (bcI (nI (i + 1)))]) dX7_due_166 kX7_56 sX7_bits MX7_bits rfl rfl (Nat.le_of_ble_eq_true rfl) (FC.use (c_bits (d + 1) _) rfl (L2 := [(38, .inr (7, [.ref 39, .ref 40, .int bu, .int (nI q), .ref 41, .int (nI pn), .ref 42, .int fl, .int fa, .int fw, .int fr, .int rs, .int ac, .ref 43, .ref 44, .ref 45, .ref 46, .ref 47, .ref 48, .ref 49])), (43, .inl (false, 8, (rn n x tk).2)), (44, .inl (false, 8, (rd n z du).2))]) rfl) (Nat.le_of_ble_eq_true rfl) (fun _ _ hq9 => E_fgo ?_ hq9)
      show E _ _ 169 [.ref 38, .int x, .long z, .null, .int (nI n), .int 0, .int 1, .int y9, .long b9, .null, .int (mit (fun x => allB (cbP nv dv n x) n) i), .int (nI (i + 1))] [.int (bitN (mit (fun x => allB (cbP nv dv n x) n) i) 8), .int (bcI (nI (i + 1)))] (hov hp [(38, .inr (7, [.ref 39, .ref 40, .int bu, .int (nI q), .ref 41, .int (nI pn), .ref 42, .int fl, .int fa, .int fw, .int fr, .int rs, .int ac, .ref 43, .ref 44, .ref 45, .ref 46, .ref 47, .ref 48, .ref 49])), (43, .inl (false, 8, (rn n x tk).2)), (44, .inl (false, 8, (rd n z du).2))]) _
      refine E_eqi (y := bcI (mit (fun x => allB (cbP nv dv n x) n) i)) (mit_b8 i (by omega)) ?_
      refine E_icmp_le (tgt := 188) dX7_due_169 (by decide) (fun c169 => ?_) (fun c169 => ?_)
      · rw [← Int32.not_lt] at c169
        refine E_iload dX7_due_188 rfl ?_
        refine E_istore (l2 := [.ref 38, .int x, .long z, .null, .int (nI n), .int 0, .int 1, .int y9, .long b9, .null, .int (mit (fun x => allB (cbP nv dv n x) n) i), .int (nI (i + 1))]) dX7_due_190 (by decide) rfl ?_
        refine E_iinc (y := nI (i + 1 + 1)) (l2 := [.ref 38, .int x, .long z, .null, .int (nI n), .int 0, .int 1, .int y9, .long b9, .null, .int (mit (fun x => allB (cbP nv dv n x) n) i), .int (nI (i + 1 + 1))]) dX7_due_192 rfl (nI_1 _) (by decide) rfl ?_
        refine E_goto (tgt := 150) dX7_due_195 (by decide) ?_
        have e9 := ih y9 b9
        rw [mit_a c169] at e9
        exact e9
      · rw [Int32.not_le] at c169
        refine E_aload_n dX7_due_172 rfl ?_
        refine E_iload dX7_due_173 rfl ?_
        refine E_iload dX7_due_175 rfl ?_
        refine E_callV (As := [.int (nI (i + 1)), .int (nI n)]) (l' := [.ref 38, .int (nI (i + 1)), .int (nI n), .null, .null, .null]) (st := []) dX7_due_177 kX7_128 iX7_canBeDrawn vX7_canBeDrawn (by decide) rfl rfl MX7_canBeDrawn rfl rfl (Nat.le_of_ble_eq_true rfl) (FC.use (m_can d bu fl fa fw fr rs ac q pn (rn n x tk).2 (rd n z du).2 (nI (i + 1)) n hn nv dv hdn hdd) rfl (L2 := [(38, .inr (7, [.ref 39, .ref 40, .int bu, .int (nI q), .ref 41, .int (nI pn), .ref 42, .int fl, .int fa, .int fw, .int fr, .int rs, .int ac, .ref 43, .ref 44, .ref 45, .ref 46, .ref 47, .ref 48, .ref 49])), (43, .inl (false, 8, (rn n x tk).2)), (44, .inl (false, 8, (rd n z du).2))]) rfl) (Nat.le_of_ble_eq_true rfl) (fun _ _ hq9 => E_fgo ?_ hq9)
        show E _ _ 180 [.ref 38, .int x, .long z, .null, .int (nI n), .int 0, .int 1, .int y9, .long b9, .null, .int (mit (fun x => allB (cbP nv dv n x) n) i), .int (nI (i + 1))] [.int (b2i (allB (cbP nv dv n (nI (i + 1))) n))] (hov hp [(38, .inr (7, [.ref 39, .ref 40, .int bu, .int (nI q), .ref 41, .int (nI pn), .ref 42, .int fl, .int fa, .int fw, .int fr, .int rs, .int ac, .ref 43, .ref 44, .ref 45, .ref 46, .ref 47, .ref 48, .ref 49])), (43, .inl (false, 8, (rn n x tk).2)), (44, .inl (false, 8, (rd n z du).2))]) _
        refine E_if_eq (tgt := 188) dX7_due_180 (by decide) (fun c180 => ?_) (fun c180 => ?_)
        · have c180 := b2i_e0 c180
          refine E_iload dX7_due_188 rfl ?_
          refine E_istore (l2 := [.ref 38, .int x, .long z, .null, .int (nI n), .int 0, .int 1, .int y9, .long b9, .null, .int (mit (fun x => allB (cbP nv dv n x) n) i), .int (nI (i + 1))]) dX7_due_190 (by decide) rfl ?_
          refine E_iinc (y := nI (i + 1 + 1)) (l2 := [.ref 38, .int x, .long z, .null, .int (nI n), .int 0, .int 1, .int y9, .long b9, .null, .int (mit (fun x => allB (cbP nv dv n x) n) i), .int (nI (i + 1 + 1))]) dX7_due_192 rfl (nI_1 _) (by decide) rfl ?_
          refine E_goto (tgt := 150) dX7_due_195 (by decide) ?_
          have e9 := ih y9 b9
          rw [mit_b (ok := (fun x => allB (cbP nv dv n x) n)) c180] at e9
          exact e9
        · have c180 := b2i_n0 c180
          refine E_iload dX7_due_183 rfl ?_
          refine E_goto (tgt := 190) dX7_due_185 (by decide) ?_
          refine E_istore (l2 := [.ref 38, .int x, .long z, .null, .int (nI n), .int 0, .int 1, .int y9, .long b9, .null, .int (nI (i + 1)), .int (nI (i + 1))]) dX7_due_190 (by decide) rfl ?_
          refine E_iinc (y := nI (i + 1 + 1)) (l2 := [.ref 38, .int x, .long z, .null, .int (nI n), .int 0, .int 1, .int y9, .long b9, .null, .int (nI (i + 1)), .int (nI (i + 1 + 1))]) dX7_due_192 rfl (nI_1 _) (by decide) rfl ?_
          refine E_goto (tgt := 150) dX7_due_195 (by decide) ?_
          have e9 := ih y9 b9
          rw [mit_t (ok := (fun x => allB (cbP nv dv n x) n)) c169 c180] at e9
          exact e9
  have L : ∀ (m : Nat) (y : Int32) (b : Int64) (f g : Nat → Int32) (l11 : Value), m ≤ 8 → rn m y f = (rn n x tk) → rd m b g = (rd n z du) → E YX7_due (d + 2) 50 [.ref 38, .int x, .long z, .null, .int (nI n), .int 0, .int 1, .int y, .long b, .null, .int (nI m - 1), l11] [] (hov hp [(38, .inr (7, [.ref 39, .ref 40, .int bu, .int (nI q), .ref 41, .int (nI pn), .ref 42, .int fl, .int fa, .int fw, .int fr, .int rs, .int ac, .ref 43, .ref 44, .ref 45, .ref 46, .ref 47, .ref 48, .ref 49])), (43, .inl (false, 8, f)), (44, .inl (false, 8, g))]) (fun v h' => v = some (.int (bcI (mit (fun x => allB (cbP nv dv n x) n) (2 ^ n - 1)))) ∧ h' = hov hp [(38, .inr (7, [.ref 39, .ref 40, .int bu, .int (nI q), .ref 41, .int (nI pn), .ref 42, .int fl, .int fa, .int fw, .int fr, .int rs, .int ac, .ref 43, .ref 44, .ref 45, .ref 46, .ref 47, .ref 48, .ref 49])), (43, .inl (false, 8, (rn n x tk).2)), (44, .inl (false, 8, (rd n z du).2))]) := by
    intro m
    induction m with
    | zero =>
      intro y b f g l11 hm he hf
      have hy : y = 0 := by rw [← he] at hr; exact of_decide_eq_true hr
      have hb : b = 0 := by rw [← hf] at hd; exact of_decide_eq_true hd
      have hef : f = (rn n x tk).2 := by rw [← he]; rfl
      have hgf : g = (rd n z du).2 := by rw [← hf]; rfl
      rw [hef, hgf]
      refine E_iload dX7_due_50 rfl ?_
      refine E_if_lt (tgt := 124) dX7_due_52 (by decide) (fun _ => ?_) (fun c => absurd (by decide) c)
      refine E_iload dX7_due_124 rfl ?_
      refine E_if_eq (tgt := 141) dX7_due_126 (by decide) (fun c => by first | exact absurd c (by decide) | exact absurd (by decide) c) (fun _ => ?_)
      refine E_iload dX7_due_129 rfl ?_
      refine E_if_ne (tgt := 141) dX7_due_131 (by decide) (fun c => absurd hy c) (fun _ => ?_)
      refine E_lload dX7_due_134 rfl ?_
      refine E_lconst (v := 0) dX7_due_136 (by decide) ?_
      refine E_lcmp dX7_due_137 ?_
      refine E_if_eq (tgt := 144) dX7_due_138 (by decide) (fun _ => ?_) (fun c => absurd ((lg_cmp_eq _ _).mpr hb) c)
      refine E_iconst (v := 0) dX7_due_144 (by decide) ?_
      refine E_istore (l2 := [.ref 38, .int x, .long z, .null, .int (nI n), .int 0, .int 1, .int y, .long b, .null, .int 0, l11]) dX7_due_145 (by decide) rfl ?_
      refine E_iconst (v := 1) dX7_due_147 (by decide) ?_
      refine E_istore (l2 := [.ref 38, .int x, .long z, .null, .int (nI n), .int 0, .int 1, .int y, .long b, .null, .int 0, .int 1]) dX7_due_148 (by decide) rfl ?_
      have e9 := LC 0 (Nat.zero_le _) y b
      exact e9
    | succ m ih =>
      intro y b f g l11 hm he hf
      have hp : ¬ rmI y 10 ≤ 0 := fun h => by rw [rn, if_pos h] at he; rw [← he] at hr; exact Bool.noConfusion hr
      refine E_iload dX7_due_50 rfl ?_
      refine E_eqi (y := nI m) (nI_pred m) ?_
      refine E_if_lt (tgt := 124) dX7_due_52 (by decide) (fun c => absurd c (nI_pos (by omega))) (fun _ => ?_)
      refine E_iload dX7_due_55 rfl ?_
      refine E_if_eq (tgt := 124) dX7_due_57 (by decide) (fun c => by first | exact absurd c (by decide) | exact absurd (by decide) c) (fun _ => ?_)
      refine E_aload_n dX7_due_60 rfl ?_
      refine E_get dX7_due_61 fX7_26 (by decide) rfl rfl ?_
      refine E_iload dX7_due_64 rfl ?_
      refine E_eqi (y := nI m) (nI_pred m) ?_
      refine E_iload dX7_due_66 rfl ?_
      refine E_bipush (v := 10) dX7_due_68 (by decide) ?_
      refine E_irem dX7_due_70 (by decide) ?_
      refine E_iastN (j := m) (f2 := upd f m (rmI y 10)) (L2 := [(38, .inr (7, [.ref 39, .ref 40, .int bu, .int (nI q), .ref 41, .int (nI pn), .ref 42, .int fl, .int fa, .int fw, .int fr, .int rs, .int ac, .ref 43, .ref 44, .ref 45, .ref 46, .ref 47, .ref 48, .ref 49])), (43, .inl (false, 8, (upd f m (rmI y 10)))), (44, .inl (false, 8, g))]) dX7_due_71 (by decide) rfl (by omega) (by decide) rfl rfl ?_
      refine E_aload_n dX7_due_72 rfl ?_
      refine E_get dX7_due_73 fX7_29 (by decide) rfl rfl ?_
      refine E_iload dX7_due_76 rfl ?_
      refine E_eqi (y := nI m) (nI_pred m) ?_
      refine E_lload dX7_due_78 rfl ?_
      refine E_ldc2 dX7_due_80 qX7_126 ?_
      refine E_lrem dX7_due_83 (by decide) ?_
      refine E_l2i dX7_due_84 ?_
      refine E_iastN (j := m) (f2 := upd g m (Int64.toInt32 (rmL b 100))) (L2 := [(38, .inr (7, [.ref 39, .ref 40, .int bu, .int (nI q), .ref 41, .int (nI pn), .ref 42, .int fl, .int fa, .int fw, .int fr, .int rs, .int ac, .ref 43, .ref 44, .ref 45, .ref 46, .ref 47, .ref 48, .ref 49])), (43, .inl (false, 8, (upd f m (rmI y 10)))), (44, .inl (false, 8, (upd g m (Int64.toInt32 (rmL b 100)))))]) dX7_due_85 (by decide) rfl (by omega) (by decide) rfl rfl ?_
      refine E_aload_n dX7_due_86 rfl ?_
      refine E_get dX7_due_87 fX7_26 (by decide) rfl rfl ?_
      refine E_iload dX7_due_90 rfl ?_
      refine E_eqi (y := nI m) (nI_pred m) ?_
      refine E_ialdN (j := m) dX7_due_92 (by decide) rfl (by omega) (by decide) ?_
      refine E_eqi (y := rmI y 10) upd_eq ?_
      refine E_if_le (tgt := 100) dX7_due_93 (by decide) (fun c => absurd c hp) (fun _ => ?_)
      refine E_iconst (v := 1) dX7_due_96 (by decide) ?_
      refine E_goto (tgt := 101) dX7_due_97 (by decide) ?_
      refine E_istore (l2 := [.ref 38, .int x, .long z, .null, .int (nI n), .int 0, .int 1, .int y, .long b, .null, .int (nI (m + 1) - 1), l11]) dX7_due_101 (by decide) rfl ?_
      refine E_iload dX7_due_103 rfl ?_
      refine E_bipush (v := 10) dX7_due_105 (by decide) ?_
      refine E_idiv dX7_due_107 (by decide) ?_
      refine E_istore (l2 := [.ref 38, .int x, .long z, .null, .int (nI n), .int 0, .int 1, .int (y / 10), .long b, .null, .int (nI (m + 1) - 1), l11]) dX7_due_108 (by decide) rfl ?_
      refine E_lload dX7_due_110 rfl ?_
      refine E_ldc2 dX7_due_112 qX7_126 ?_
      refine E_ldiv dX7_due_115 (by decide) ?_
      refine E_lstore (l2 := [.ref 38, .int x, .long z, .null, .int (nI n), .int 0, .int 1, .int (y / 10), .long (b / 100), .null, .int (nI (m + 1) - 1), l11]) dX7_due_116 (by decide) rfl ?_
      refine E_iinc (y := nI m - 1) (l2 := [.ref 38, .int x, .long z, .null, .int (nI n), .int 0, .int 1, .int (y / 10), .long (b / 100), .null, .int (nI m - 1), l11]) dX7_due_118 rfl (m1_add m) (by decide) rfl ?_
      refine E_goto (tgt := 50) dX7_due_121 (by decide) ?_
      exact ih _ _ _ _ _ (by omega) (by rw [← he, rn, if_neg hp]) (by rw [← hf, rd])
  refine E_iload dX7_due_0 rfl ?_
  refine E_iconst (v := 1) dX7_due_2 (by decide) ?_
  refine E_bipush (v := 8) dX7_due_3 (by decide) ?_
  refine E_callS (As := [.int (nI n), .int 1, .int 8]) (l' := [.int (nI n), .int 1, .int 8]) (st := []) dX7_due_5 kX7_48 sX7_in MX7_in rfl rfl (Nat.le_of_ble_eq_true rfl) (FC.use (c_in (d + 1) _ _ _) rfl (L2 := [(38, .inr (7, [.ref 39, .ref 40, .int bu, .int (nI q), .ref 41, .int (nI pn), .ref 42, .int fl, .int fa, .int fw, .int fr, .int rs, .int ac, .ref 43, .ref 44, .ref 45, .ref 46, .ref 47, .ref 48, .ref 49])), (43, .inl (false, 8, tk)), (44, .inl (false, 8, du))]) rfl) (Nat.le_of_ble_eq_true rfl) (fun _ _ hq9 => E_fgo ?_ hq9)
  show E _ _ 8 [.ref 38, .int x, .long z, .null, .int (nI n), .int 0, .null, .null, .null, .null, .null, .null] [.int (b2i (inI (nI n) 1 8))] (hov hp [(38, .inr (7, [.ref 39, .ref 40, .int bu, .int (nI q), .ref 41, .int (nI pn), .ref 42, .int fl, .int fa, .int fw, .int fr, .int rs, .int ac, .ref 43, .ref 44, .ref 45, .ref 46, .ref 47, .ref 48, .ref 49])), (43, .inl (false, 8, tk)), (44, .inl (false, 8, du))]) _
  refine E_if_eq (tgt := 35) dX7_due_8 (by decide) (fun c => (b2i_x1 h0 c).elim) (fun _ => ?_)
  refine E_iload_n dX7_due_11 rfl ?_
  refine E_if_le (tgt := 35) dX7_due_12 (by decide) (fun c => absurd c (Int32.not_le.mpr hx)) (fun _ => ?_)
  refine E_lload_n dX7_due_15 rfl ?_
  refine E_lconst (v := 0) dX7_due_16 (by decide) ?_
  refine E_lcmp dX7_due_17 ?_
  refine E_if_lt (tgt := 35) dX7_due_18 (by decide) (fun c => absurd ((lg_cmp_lt _ _).mp c) (Int64.not_lt.mpr hz)) (fun _ => ?_)
  refine E_iload dX7_due_21 rfl ?_
  refine E_iconst (v := 0) dX7_due_23 (by decide) ?_
  refine E_iconst (v := 1) dX7_due_24 (by decide) ?_
  refine E_callS (As := [.int 0, .int 0, .int 1]) (l' := [.int 0, .int 0, .int 1]) (st := []) dX7_due_25 kX7_48 sX7_in MX7_in rfl rfl (Nat.le_of_ble_eq_true rfl) (FC.use (c_in (d + 1) _ _ _) rfl (L2 := [(38, .inr (7, [.ref 39, .ref 40, .int bu, .int (nI q), .ref 41, .int (nI pn), .ref 42, .int fl, .int fa, .int fw, .int fr, .int rs, .int ac, .ref 43, .ref 44, .ref 45, .ref 46, .ref 47, .ref 48, .ref 49])), (43, .inl (false, 8, tk)), (44, .inl (false, 8, du))]) rfl) (Nat.le_of_ble_eq_true rfl) (fun _ _ hq9 => E_fgo ?_ hq9)
  show E _ _ 28 [.ref 38, .int x, .long z, .null, .int (nI n), .int 0, .null, .null, .null, .null, .null, .null] [.int (b2i (inI 0 0 1))] (hov hp [(38, .inr (7, [.ref 39, .ref 40, .int bu, .int (nI q), .ref 41, .int (nI pn), .ref 42, .int fl, .int fa, .int fw, .int fr, .int rs, .int ac, .ref 43, .ref 44, .ref 45, .ref 46, .ref 47, .ref 48, .ref 49])), (43, .inl (false, 8, tk)), (44, .inl (false, 8, du))]) _
  refine E_if_eq (tgt := 35) dX7_due_28 (by decide) (fun c => (b2i_x1 (by decide) c).elim) (fun _ => ?_)
  refine E_iconst (v := 1) dX7_due_31 (by decide) ?_
  refine E_goto (tgt := 36) dX7_due_32 (by decide) ?_
  refine E_istore (l2 := [.ref 38, .int x, .long z, .null, .int (nI n), .int 0, .int 1, .null, .null, .null, .null, .null]) dX7_due_36 (by decide) rfl ?_
  refine E_iload_n dX7_due_38 rfl ?_
  refine E_istore (l2 := [.ref 38, .int x, .long z, .null, .int (nI n), .int 0, .int 1, .int x, .null, .null, .null, .null]) dX7_due_39 (by decide) rfl ?_
  refine E_lload_n dX7_due_41 rfl ?_
  refine E_lstore (l2 := [.ref 38, .int x, .long z, .null, .int (nI n), .int 0, .int 1, .int x, .long z, .null, .null, .null]) dX7_due_42 (by decide) rfl ?_
  refine E_iload dX7_due_44 rfl ?_
  refine E_iconst (v := 1) dX7_due_46 (by decide) ?_
  refine E_isub dX7_due_47 ?_
  refine E_istore (l2 := [.ref 38, .int x, .long z, .null, .int (nI n), .int 0, .int 1, .int x, .long z, .null, .int ((nI n) - 1), .null]) dX7_due_48 (by decide) rfl ?_
  exact L n x z tk du _ hn rfl rfl

set_option maxHeartbeats 4000000 in
set_option maxRecDepth 20000 in
theorem m_due_1 (d : Nat) (bu fl fa fw fr rs ac : Int32) (q pn : Nat) (tk du : Nat → Int32) (x : Int32) (z : Int64) (n : Nat) (hn : n ≤ 8) (h0 : inI (nI n) 1 8 = true) (hx : 0 < x) (hr : (rn n x tk).1 = true) (hz : 0 ≤ z) (hd : (rd n z du).1 = true) (dv : Nat → Nat) (hdd : ∀ j, j < n → (rd n z du).2 j = nI (dv j) ∧ dv j ≤ 99) (nv : Nat → Nat) (hdn : ∀ j, j < n → (rn n x tk).2 j = nI (nv j) ∧ nv j ≤ 9) : FC YX7_due (d + 2) [.ref 38, .int x, .long z, .null, .int (nI n), .int 1, .null, .null, .null, .null, .null, .null] [(38, .inr (7, [.ref 39, .ref 40, .int bu, .int (nI q), .ref 41, .int (nI pn), .ref 42, .int fl, .int fa, .int fw, .int fr, .int rs, .int ac, .ref 43, .ref 44, .ref 45, .ref 46, .ref 47, .ref 48, .ref 49])), (43, .inl (false, 8, tk)), (44, .inl (false, 8, du))] (some (.int (mit (fun x => allB (cbP nv dv n x) n) (2 ^ n - 1)))) [(38, .inr (7, [.ref 39, .ref 40, .int bu, .int (nI q), .ref 41, .int (nI pn), .ref 42, .int fl, .int fa, .int fw, .int fr, .int rs, .int ac, .ref 43, .ref 44, .ref 45, .ref 46, .ref 47, .ref 48, .ref 49])), (43, .inl (false, 8, (rn n x tk).2)), (44, .inl (false, 8, (rd n z du).2))] := by
  intro hp
  have hpw : 1 ≤ 2 ^ n := Nat.pos_of_ne_zero (by simp)
  have hpw2 : 2 ^ n ≤ 2 ^ 8 := Nat.pow_le_pow_right (by decide) hn
  have LC : ∀ i, i ≤ 2 ^ n - 1 → ∀ (y9 : Int32) (b9 : Int64), E YX7_due (d + 2) 150 [.ref 38, .int x, .long z, .null, .int (nI n), .int 1, .int 1, .int y9, .long b9, .null, .int (mit (fun x => allB (cbP nv dv n x) n) i), .int (nI (i + 1))] [] (hov hp [(38, .inr (7, [.ref 39, .ref 40, .int bu, .int (nI q), .ref 41, .int (nI pn), .ref 42, .int fl, .int fa, .int fw, .int fr, .int rs, .int ac, .ref 43, .ref 44, .ref 45, .ref 46, .ref 47, .ref 48, .ref 49])), (43, .inl (false, 8, (rn n x tk).2)), (44, .inl (false, 8, (rd n z du).2))]) (fun v h' => v = some (.int (mit (fun x => allB (cbP nv dv n x) n) (2 ^ n - 1))) ∧ h' = hov hp [(38, .inr (7, [.ref 39, .ref 40, .int bu, .int (nI q), .ref 41, .int (nI pn), .ref 42, .int fl, .int fa, .int fw, .int fr, .int rs, .int ac, .ref 43, .ref 44, .ref 45, .ref 46, .ref 47, .ref 48, .ref 49])), (43, .inl (false, 8, (rn n x tk).2)), (44, .inl (false, 8, (rd n z du).2))]) := by
    refine down (2 ^ n - 1) ?_ ?_
    · intro y9 b9
      refine E_iload dX7_due_150 rfl ?_
      refine E_iconst (v := 1) dX7_due_152 (by decide) ?_
      refine E_iload dX7_due_153 rfl ?_
      refine E_ishl dX7_due_155 ?_
      refine E_eqi (y := nI (2 ^ n)) (shl8 n (by omega)) ?_
      refine E_icmp_ge (tgt := 198) dX7_due_156 (by decide) (fun _ => ?_) (fun c => absurd (nI_le (by omega) (by omega)) c)
      refine E_iload dX7_due_198 rfl ?_
      refine E_if_ne (tgt := 211) dX7_due_200 (by decide) (fun _ => ?_) (fun c => by first | exact absurd c (by decide) | exact absurd (by decide) c)
      refine E_iload dX7_due_211 rfl ?_
      exact E_iretf dX7_due_213 rfl rfl rfl rfl
    · intro i hi ih y9 b9
      refine E_iload dX7_due_150 rfl ?_
      refine E_iconst (v := 1) dX7_due_152 (by decide) ?_
      refine E_iload dX7_due_153 rfl ?_
      refine E_ishl dX7_due_155 ?_
      refine E_eqi (y := nI (2 ^ n)) (shl8 n (by omega)) ?_
      refine E_icmp_ge (tgt := 198) dX7_due_156 (by decide) (fun c => absurd c (nI_ge (by omega) (by omega))) (fun _ => ?_)
      refine E_iload dX7_due_159 rfl ?_
      refine E_callS (As := [.int (nI (i + 1))]) (l' := [.int (nI (i + 1)), .null, .null]) (st := []) dX7_due_161 kX7_56 sX7_bits MX7_bits rfl rfl (Nat.le_of_ble_eq_true rfl) (FC.use (c_bits (d + 1) _) rfl (L2 := [(38, .inr (7, [.ref 39, .ref 40, .int bu, .int (nI q), .ref 41, .int (nI pn), .ref 42, .int fl, .int fa, .int fw, .int fr, .int rs, .int ac, .ref 43, .ref 44, .ref 45, .ref 46, .ref 47, .ref 48, .ref 49])), (43, .inl (false, 8, (rn n x tk).2)), (44, .inl (false, 8, (rd n z du).2))]) rfl) (Nat.le_of_ble_eq_true rfl) (fun _ _ hq9 => E_fgo ?_ hq9)
      show E _ _ 164 [.ref 38, .int x, .long z, .null, .int (nI n), .int 1, .int 1, .int y9, .long b9, .null, .int (mit (fun x => allB (cbP nv dv n x) n) i), .int (nI (i + 1))] [.int (bitN (nI (i + 1)) 8)] (hov hp [(38, .inr (7, [.ref 39, .ref 40, .int bu, .int (nI q), .ref 41, .int (nI pn), .ref 42, .int fl, .int fa, .int fw, .int fr, .int rs, .int ac, .ref 43, .ref 44, .ref 45, .ref 46, .ref 47, .ref 48, .ref 49])), (43, .inl (false, 8, (rn n x tk).2)), (44, .inl (false, 8, (rd n z du).2))]) _
      refine E_eqi (y := bcI (nI (i + 1))) (bits_bc (i + 1) (by omega)) ?_
      refine E_iload dX7_due_164 rfl ?_
      refine E_callS (As := [.int (mit (fun x => allB (cbP nv dv n x) n) i)]) (l' := [.int (mit (fun x => allB (cbP nv dv n x) n) i), .null, .null]) (st := [.int (bcI (nI (i + 1)))]) dX7_due_166 kX7_56 sX7_bits MX7_bits rfl rfl (Nat.le_of_ble_eq_true rfl) (FC.use (c_bits (d + 1) _) rfl (L2 := [(38, .inr (7, [.ref 39, .ref 40, .int bu, .int (nI q), .ref 41, .int (nI pn), .ref 42, .int fl, .int fa, .int fw, .int fr, .int rs, .int ac, .ref 43, .ref 44, .ref 45, .ref 46, .ref 47, .ref 48, .ref 49])), (43, .inl (false, 8, (rn n x tk).2)), (44, .inl (false, 8, (rd n z du).2))]) rfl) (Nat.le_of_ble_eq_true rfl) (fun _ _ hq9 => E_fgo ?_ hq9)
      show E _ _ 169 [.ref 38, .int x, .long z, .null, .int (nI n), .int 1, .int 1, .int y9, .long b9, .null, .int (mit (fun x => allB (cbP nv dv n x) n) i), .int (nI (i + 1))] [.int (bitN (mit (fun x => allB (cbP nv dv n x) n) i) 8), .int (bcI (nI (i + 1)))] (hov hp [(38, .inr (7, [.ref 39, .ref 40, .int bu, .int (nI q), .ref 41, .int (nI pn), .ref 42, .int fl, .int fa, .int fw, .int fr, .int rs, .int ac, .ref 43, .ref 44, .ref 45, .ref 46, .ref 47, .ref 48, .ref 49])), (43, .inl (false, 8, (rn n x tk).2)), (44, .inl (false, 8, (rd n z du).2))]) _
      refine E_eqi (y := bcI (mit (fun x => allB (cbP nv dv n x) n) i)) (mit_b8 i (by omega)) ?_
      refine E_icmp_le (tgt := 188) dX7_due_169 (by decide) (fun c169 => ?_) (fun c169 => ?_)
      · rw [← Int32.not_lt] at c169
        refine E_iload dX7_due_188 rfl ?_
        refine E_istore (l2 := [.ref 38, .int x, .long z, .null, .int (nI n), .int 1, .int 1, .int y9, .long b9, .null, .int (mit (fun x => allB (cbP nv dv n x) n) i), .int (nI (i + 1))]) dX7_due_190 (by decide) rfl ?_
        refine E_iinc (y := nI (i + 1 + 1)) (l2 := [.ref 38, .int x, .long z, .null, .int (nI n), .int 1, .int 1, .int y9, .long b9, .null, .int (mit (fun x => allB (cbP nv dv n x) n) i), .int (nI (i + 1 + 1))]) dX7_due_192 rfl (nI_1 _) (by decide) rfl ?_
        refine E_goto (tgt := 150) dX7_due_195 (by decide) ?_
        have e9 := ih y9 b9
        rw [mit_a c169] at e9
        exact e9
      · rw [Int32.not_le] at c169
        refine E_aload_n dX7_due_172 rfl ?_
        refine E_iload dX7_due_173 rfl ?_
        refine E_iload dX7_due_175 rfl ?_
        refine E_callV (As := [.int (nI (i + 1)), .int (nI n)]) (l' := [.ref 38, .int (nI (i + 1)), .int (nI n), .null, .null, .null]) (st := []) dX7_due_177 kX7_128 iX7_canBeDrawn vX7_canBeDrawn (by decide) rfl rfl MX7_canBeDrawn rfl rfl (Nat.le_of_ble_eq_true rfl) (FC.use (m_can d bu fl fa fw fr rs ac q pn (rn n x tk).2 (rd n z du).2 (nI (i + 1)) n hn nv dv hdn hdd) rfl (L2 := [(38, .inr (7, [.ref 39, .ref 40, .int bu, .int (nI q), .ref 41, .int (nI pn), .ref 42, .int fl, .int fa, .int fw, .int fr, .int rs, .int ac, .ref 43, .ref 44, .ref 45, .ref 46, .ref 47, .ref 48, .ref 49])), (43, .inl (false, 8, (rn n x tk).2)), (44, .inl (false, 8, (rd n z du).2))]) rfl) (Nat.le_of_ble_eq_true rfl) (fun _ _ hq9 => E_fgo ?_ hq9)
        show E _ _ 180 [.ref 38, .int x, .long z, .null, .int (nI n), .int 1, .int 1, .int y9, .long b9, .null, .int (mit (fun x => allB (cbP nv dv n x) n) i), .int (nI (i + 1))] [.int (b2i (allB (cbP nv dv n (nI (i + 1))) n))] (hov hp [(38, .inr (7, [.ref 39, .ref 40, .int bu, .int (nI q), .ref 41, .int (nI pn), .ref 42, .int fl, .int fa, .int fw, .int fr, .int rs, .int ac, .ref 43, .ref 44, .ref 45, .ref 46, .ref 47, .ref 48, .ref 49])), (43, .inl (false, 8, (rn n x tk).2)), (44, .inl (false, 8, (rd n z du).2))]) _
        refine E_if_eq (tgt := 188) dX7_due_180 (by decide) (fun c180 => ?_) (fun c180 => ?_)
        · have c180 := b2i_e0 c180
          refine E_iload dX7_due_188 rfl ?_
          refine E_istore (l2 := [.ref 38, .int x, .long z, .null, .int (nI n), .int 1, .int 1, .int y9, .long b9, .null, .int (mit (fun x => allB (cbP nv dv n x) n) i), .int (nI (i + 1))]) dX7_due_190 (by decide) rfl ?_
          refine E_iinc (y := nI (i + 1 + 1)) (l2 := [.ref 38, .int x, .long z, .null, .int (nI n), .int 1, .int 1, .int y9, .long b9, .null, .int (mit (fun x => allB (cbP nv dv n x) n) i), .int (nI (i + 1 + 1))]) dX7_due_192 rfl (nI_1 _) (by decide) rfl ?_
          refine E_goto (tgt := 150) dX7_due_195 (by decide) ?_
          have e9 := ih y9 b9
          rw [mit_b (ok := (fun x => allB (cbP nv dv n x) n)) c180] at e9
          exact e9
        · have c180 := b2i_n0 c180
          refine E_iload dX7_due_183 rfl ?_
          refine E_goto (tgt := 190) dX7_due_185 (by decide) ?_
          refine E_istore (l2 := [.ref 38, .int x, .long z, .null, .int (nI n), .int 1, .int 1, .int y9, .long b9, .null, .int (nI (i + 1)), .int (nI (i + 1))]) dX7_due_190 (by decide) rfl ?_
          refine E_iinc (y := nI (i + 1 + 1)) (l2 := [.ref 38, .int x, .long z, .null, .int (nI n), .int 1, .int 1, .int y9, .long b9, .null, .int (nI (i + 1)), .int (nI (i + 1 + 1))]) dX7_due_192 rfl (nI_1 _) (by decide) rfl ?_
          refine E_goto (tgt := 150) dX7_due_195 (by decide) ?_
          have e9 := ih y9 b9
          rw [mit_t (ok := (fun x => allB (cbP nv dv n x) n)) c169 c180] at e9
          exact e9
  have L : ∀ (m : Nat) (y : Int32) (b : Int64) (f g : Nat → Int32) (l11 : Value), m ≤ 8 → rn m y f = (rn n x tk) → rd m b g = (rd n z du) → E YX7_due (d + 2) 50 [.ref 38, .int x, .long z, .null, .int (nI n), .int 1, .int 1, .int y, .long b, .null, .int (nI m - 1), l11] [] (hov hp [(38, .inr (7, [.ref 39, .ref 40, .int bu, .int (nI q), .ref 41, .int (nI pn), .ref 42, .int fl, .int fa, .int fw, .int fr, .int rs, .int ac, .ref 43, .ref 44, .ref 45, .ref 46, .ref 47, .ref 48, .ref 49])), (43, .inl (false, 8, f)), (44, .inl (false, 8, g))]) (fun v h' => v = some (.int (mit (fun x => allB (cbP nv dv n x) n) (2 ^ n - 1))) ∧ h' = hov hp [(38, .inr (7, [.ref 39, .ref 40, .int bu, .int (nI q), .ref 41, .int (nI pn), .ref 42, .int fl, .int fa, .int fw, .int fr, .int rs, .int ac, .ref 43, .ref 44, .ref 45, .ref 46, .ref 47, .ref 48, .ref 49])), (43, .inl (false, 8, (rn n x tk).2)), (44, .inl (false, 8, (rd n z du).2))]) := by
    intro m
    induction m with
    | zero =>
      intro y b f g l11 hm he hf
      have hy : y = 0 := by rw [← he] at hr; exact of_decide_eq_true hr
      have hb : b = 0 := by rw [← hf] at hd; exact of_decide_eq_true hd
      have hef : f = (rn n x tk).2 := by rw [← he]; rfl
      have hgf : g = (rd n z du).2 := by rw [← hf]; rfl
      rw [hef, hgf]
      refine E_iload dX7_due_50 rfl ?_
      refine E_if_lt (tgt := 124) dX7_due_52 (by decide) (fun _ => ?_) (fun c => absurd (by decide) c)
      refine E_iload dX7_due_124 rfl ?_
      refine E_if_eq (tgt := 141) dX7_due_126 (by decide) (fun c => by first | exact absurd c (by decide) | exact absurd (by decide) c) (fun _ => ?_)
      refine E_iload dX7_due_129 rfl ?_
      refine E_if_ne (tgt := 141) dX7_due_131 (by decide) (fun c => absurd hy c) (fun _ => ?_)
      refine E_lload dX7_due_134 rfl ?_
      refine E_lconst (v := 0) dX7_due_136 (by decide) ?_
      refine E_lcmp dX7_due_137 ?_
      refine E_if_eq (tgt := 144) dX7_due_138 (by decide) (fun _ => ?_) (fun c => absurd ((lg_cmp_eq _ _).mpr hb) c)
      refine E_iconst (v := 0) dX7_due_144 (by decide) ?_
      refine E_istore (l2 := [.ref 38, .int x, .long z, .null, .int (nI n), .int 1, .int 1, .int y, .long b, .null, .int 0, l11]) dX7_due_145 (by decide) rfl ?_
      refine E_iconst (v := 1) dX7_due_147 (by decide) ?_
      refine E_istore (l2 := [.ref 38, .int x, .long z, .null, .int (nI n), .int 1, .int 1, .int y, .long b, .null, .int 0, .int 1]) dX7_due_148 (by decide) rfl ?_
      have e9 := LC 0 (Nat.zero_le _) y b
      exact e9
    | succ m ih =>
      intro y b f g l11 hm he hf
      have hp : ¬ rmI y 10 ≤ 0 := fun h => by rw [rn, if_pos h] at he; rw [← he] at hr; exact Bool.noConfusion hr
      refine E_iload dX7_due_50 rfl ?_
      refine E_eqi (y := nI m) (nI_pred m) ?_
      refine E_if_lt (tgt := 124) dX7_due_52 (by decide) (fun c => absurd c (nI_pos (by omega))) (fun _ => ?_)
      refine E_iload dX7_due_55 rfl ?_
      refine E_if_eq (tgt := 124) dX7_due_57 (by decide) (fun c => by first | exact absurd c (by decide) | exact absurd (by decide) c) (fun _ => ?_)
      refine E_aload_n dX7_due_60 rfl ?_
      refine E_get dX7_due_61 fX7_26 (by decide) rfl rfl ?_
      refine E_iload dX7_due_64 rfl ?_
      refine E_eqi (y := nI m) (nI_pred m) ?_
      refine E_iload dX7_due_66 rfl ?_
      refine E_bipush (v := 10) dX7_due_68 (by decide) ?_
      refine E_irem dX7_due_70 (by decide) ?_
      refine E_iastN (j := m) (f2 := upd f m (rmI y 10)) (L2 := [(38, .inr (7, [.ref 39, .ref 40, .int bu, .int (nI q), .ref 41, .int (nI pn), .ref 42, .int fl, .int fa, .int fw, .int fr, .int rs, .int ac, .ref 43, .ref 44, .ref 45, .ref 46, .ref 47, .ref 48, .ref 49])), (43, .inl (false, 8, (upd f m (rmI y 10)))), (44, .inl (false, 8, g))]) dX7_due_71 (by decide) rfl (by omega) (by decide) rfl rfl ?_
      refine E_aload_n dX7_due_72 rfl ?_
      refine E_get dX7_due_73 fX7_29 (by decide) rfl rfl ?_
      refine E_iload dX7_due_76 rfl ?_
      refine E_eqi (y := nI m) (nI_pred m) ?_
      refine E_lload dX7_due_78 rfl ?_
      refine E_ldc2 dX7_due_80 qX7_126 ?_
      refine E_lrem dX7_due_83 (by decide) ?_
      refine E_l2i dX7_due_84 ?_
      refine E_iastN (j := m) (f2 := upd g m (Int64.toInt32 (rmL b 100))) (L2 := [(38, .inr (7, [.ref 39, .ref 40, .int bu, .int (nI q), .ref 41, .int (nI pn), .ref 42, .int fl, .int fa, .int fw, .int fr, .int rs, .int ac, .ref 43, .ref 44, .ref 45, .ref 46, .ref 47, .ref 48, .ref 49])), (43, .inl (false, 8, (upd f m (rmI y 10)))), (44, .inl (false, 8, (upd g m (Int64.toInt32 (rmL b 100)))))]) dX7_due_85 (by decide) rfl (by omega) (by decide) rfl rfl ?_
      refine E_aload_n dX7_due_86 rfl ?_
      refine E_get dX7_due_87 fX7_26 (by decide) rfl rfl ?_
      refine E_iload dX7_due_90 rfl ?_
      refine E_eqi (y := nI m) (nI_pred m) ?_
      refine E_ialdN (j := m) dX7_due_92 (by decide) rfl (by omega) (by decide) ?_
      refine E_eqi (y := rmI y 10) upd_eq ?_
      refine E_if_le (tgt := 100) dX7_due_93 (by decide) (fun c => absurd c hp) (fun _ => ?_)
      refine E_iconst (v := 1) dX7_due_96 (by decide) ?_
      refine E_goto (tgt := 101) dX7_due_97 (by decide) ?_
      refine E_istore (l2 := [.ref 38, .int x, .long z, .null, .int (nI n), .int 1, .int 1, .int y, .long b, .null, .int (nI (m + 1) - 1), l11]) dX7_due_101 (by decide) rfl ?_
      refine E_iload dX7_due_103 rfl ?_
      refine E_bipush (v := 10) dX7_due_105 (by decide) ?_
      refine E_idiv dX7_due_107 (by decide) ?_
      refine E_istore (l2 := [.ref 38, .int x, .long z, .null, .int (nI n), .int 1, .int 1, .int (y / 10), .long b, .null, .int (nI (m + 1) - 1), l11]) dX7_due_108 (by decide) rfl ?_
      refine E_lload dX7_due_110 rfl ?_
      refine E_ldc2 dX7_due_112 qX7_126 ?_
      refine E_ldiv dX7_due_115 (by decide) ?_
      refine E_lstore (l2 := [.ref 38, .int x, .long z, .null, .int (nI n), .int 1, .int 1, .int (y / 10), .long (b / 100), .null, .int (nI (m + 1) - 1), l11]) dX7_due_116 (by decide) rfl ?_
      refine E_iinc (y := nI m - 1) (l2 := [.ref 38, .int x, .long z, .null, .int (nI n), .int 1, .int 1, .int (y / 10), .long (b / 100), .null, .int (nI m - 1), l11]) dX7_due_118 rfl (m1_add m) (by decide) rfl ?_
      refine E_goto (tgt := 50) dX7_due_121 (by decide) ?_
      exact ih _ _ _ _ _ (by omega) (by rw [← he, rn, if_neg hp]) (by rw [← hf, rd])
  refine E_iload dX7_due_0 rfl ?_
  refine E_iconst (v := 1) dX7_due_2 (by decide) ?_
  refine E_bipush (v := 8) dX7_due_3 (by decide) ?_
  refine E_callS (As := [.int (nI n), .int 1, .int 8]) (l' := [.int (nI n), .int 1, .int 8]) (st := []) dX7_due_5 kX7_48 sX7_in MX7_in rfl rfl (Nat.le_of_ble_eq_true rfl) (FC.use (c_in (d + 1) _ _ _) rfl (L2 := [(38, .inr (7, [.ref 39, .ref 40, .int bu, .int (nI q), .ref 41, .int (nI pn), .ref 42, .int fl, .int fa, .int fw, .int fr, .int rs, .int ac, .ref 43, .ref 44, .ref 45, .ref 46, .ref 47, .ref 48, .ref 49])), (43, .inl (false, 8, tk)), (44, .inl (false, 8, du))]) rfl) (Nat.le_of_ble_eq_true rfl) (fun _ _ hq9 => E_fgo ?_ hq9)
  show E _ _ 8 [.ref 38, .int x, .long z, .null, .int (nI n), .int 1, .null, .null, .null, .null, .null, .null] [.int (b2i (inI (nI n) 1 8))] (hov hp [(38, .inr (7, [.ref 39, .ref 40, .int bu, .int (nI q), .ref 41, .int (nI pn), .ref 42, .int fl, .int fa, .int fw, .int fr, .int rs, .int ac, .ref 43, .ref 44, .ref 45, .ref 46, .ref 47, .ref 48, .ref 49])), (43, .inl (false, 8, tk)), (44, .inl (false, 8, du))]) _
  refine E_if_eq (tgt := 35) dX7_due_8 (by decide) (fun c => (b2i_x1 h0 c).elim) (fun _ => ?_)
  refine E_iload_n dX7_due_11 rfl ?_
  refine E_if_le (tgt := 35) dX7_due_12 (by decide) (fun c => absurd c (Int32.not_le.mpr hx)) (fun _ => ?_)
  refine E_lload_n dX7_due_15 rfl ?_
  refine E_lconst (v := 0) dX7_due_16 (by decide) ?_
  refine E_lcmp dX7_due_17 ?_
  refine E_if_lt (tgt := 35) dX7_due_18 (by decide) (fun c => absurd ((lg_cmp_lt _ _).mp c) (Int64.not_lt.mpr hz)) (fun _ => ?_)
  refine E_iload dX7_due_21 rfl ?_
  refine E_iconst (v := 0) dX7_due_23 (by decide) ?_
  refine E_iconst (v := 1) dX7_due_24 (by decide) ?_
  refine E_callS (As := [.int 1, .int 0, .int 1]) (l' := [.int 1, .int 0, .int 1]) (st := []) dX7_due_25 kX7_48 sX7_in MX7_in rfl rfl (Nat.le_of_ble_eq_true rfl) (FC.use (c_in (d + 1) _ _ _) rfl (L2 := [(38, .inr (7, [.ref 39, .ref 40, .int bu, .int (nI q), .ref 41, .int (nI pn), .ref 42, .int fl, .int fa, .int fw, .int fr, .int rs, .int ac, .ref 43, .ref 44, .ref 45, .ref 46, .ref 47, .ref 48, .ref 49])), (43, .inl (false, 8, tk)), (44, .inl (false, 8, du))]) rfl) (Nat.le_of_ble_eq_true rfl) (fun _ _ hq9 => E_fgo ?_ hq9)
  show E _ _ 28 [.ref 38, .int x, .long z, .null, .int (nI n), .int 1, .null, .null, .null, .null, .null, .null] [.int (b2i (inI 1 0 1))] (hov hp [(38, .inr (7, [.ref 39, .ref 40, .int bu, .int (nI q), .ref 41, .int (nI pn), .ref 42, .int fl, .int fa, .int fw, .int fr, .int rs, .int ac, .ref 43, .ref 44, .ref 45, .ref 46, .ref 47, .ref 48, .ref 49])), (43, .inl (false, 8, tk)), (44, .inl (false, 8, du))]) _
  refine E_if_eq (tgt := 35) dX7_due_28 (by decide) (fun c => (b2i_x1 (by decide) c).elim) (fun _ => ?_)
  refine E_iconst (v := 1) dX7_due_31 (by decide) ?_
  refine E_goto (tgt := 36) dX7_due_32 (by decide) ?_
  refine E_istore (l2 := [.ref 38, .int x, .long z, .null, .int (nI n), .int 1, .int 1, .null, .null, .null, .null, .null]) dX7_due_36 (by decide) rfl ?_
  refine E_iload_n dX7_due_38 rfl ?_
  refine E_istore (l2 := [.ref 38, .int x, .long z, .null, .int (nI n), .int 1, .int 1, .int x, .null, .null, .null, .null]) dX7_due_39 (by decide) rfl ?_
  refine E_lload_n dX7_due_41 rfl ?_
  refine E_lstore (l2 := [.ref 38, .int x, .long z, .null, .int (nI n), .int 1, .int 1, .int x, .long z, .null, .null, .null]) dX7_due_42 (by decide) rfl ?_
  refine E_iload dX7_due_44 rfl ?_
  refine E_iconst (v := 1) dX7_due_46 (by decide) ?_
  refine E_isub dX7_due_47 ?_
  refine E_istore (l2 := [.ref 38, .int x, .long z, .null, .int (nI n), .int 1, .int 1, .int x, .long z, .null, .int ((nI n) - 1), .null]) dX7_due_48 (by decide) rfl ?_
  exact L n x z tk du _ hn rfl rfl
