/-! chains: both ways of growing a set end at the least closed one -/
def sub (x y : Int32) : Prop := ∀ n, n < 6 → hbt x (nI n) = true → hbt y (nI n) = true
set_option maxRecDepth 100000 in
theorem hb_tb : ∀ k, k < 64 → ∀ n, n < 6 → hbt (nI k) (nI n) = k.testBit n := by decide +kernel
set_option maxRecDepth 100000 in
theorem k_bits : ∀ k, k < 64 → k = (k.testBit 0).toNat + 2 * (k.testBit 1).toNat + 4 * (k.testBit 2).toNat + 8 * (k.testBit 3).toNat + 16 * (k.testBit 4).toNat + 32 * (k.testBit 5).toNat := by decide +kernel
set_option maxRecDepth 100000 in
theorem hb_ork : ∀ k, k < 64 → ∀ h, h < 6 → ∀ n, n < 6 → hbt (orB (nI k) h) (nI n) = (hbt (nI k) (nI n) || decide (n = h)) := by decide +kernel
theorem hb_or {x : Int32} (hx : Bd 64 x) {h n : Nat} (hh : h < 6) (hn : n < 6) : hbt (orB x h) (nI n) = (hbt x (nI n) || decide (n = h)) := by
  obtain ⟨k, hk, rfl⟩ := hx
  exact hb_ork k hk h hh n hn
theorem hb_0 : ∀ n, n < 6 → hbt 0 (nI n) = false := by decide
theorem hb_1 : ∀ n, n < 6 → hbt (1 <<< (nI n &&& 31)) (nI n) = true := by decide
theorem hb_1e : ∀ f, f < 6 → ∀ n, n < 6 → hbt (1 <<< (nI f &&& 31)) (nI n) = true → n = f := by decide
theorem bd_1 : ∀ n, n < 6 → (1 <<< (nI n &&& 31) : Int32) = nI (1 <<< n) ∧ 1 <<< n < 64 := by decide
theorem bd_ext {x y : Int32} (hx : Bd 64 x) (hy : Bd 64 y) (h : ∀ n, n < 6 → hbt x (nI n) = hbt y (nI n)) : x = y := by
  obtain ⟨k, hk, rfl⟩ := hx
  obtain ⟨m, hm, rfl⟩ := hy
  have e : ∀ n, n < 6 → k.testBit n = m.testBit n := fun n hn => by rw [← hb_tb k hk n hn, ← hb_tb m hm n hn]; exact h n hn
  have a := k_bits k hk
  have b := k_bits m hm
  rw [e 0 (by decide), e 1 (by decide), e 2 (by decide), e 3 (by decide), e 4 (by decide), e 5 (by decide)] at a
  rw [a.trans b.symm]
theorem sub_ext {x y : Int32} (hx : Bd 64 x) (hy : Bd 64 y) (h1 : sub x y) (h2 : sub y x) : x = y := bd_ext hx hy (fun n hn => by
  cases e : hbt x (nI n) with
  | true => rw [h1 n hn e]
  | false =>
    cases e2 : hbt y (nI n) with
    | false => rfl
    | true => rw [h2 n hn e2] at e; exact absurd e (by decide))
theorem sub_rfl (x : Int32) : sub x x := fun _ _ h => h
theorem sub_tr {x y z : Int32} (h1 : sub x y) (h2 : sub y z) : sub x z := fun n hn h => h2 n hn (h1 n hn h)
theorem sub_or {x : Int32} (hx : Bd 64 x) {h : Nat} (hh : h < 6) : sub x (orB x h) := fun n hn e => by rw [hb_or hx hh hn, e]; rfl
/-- how many -/
def pcx (x : Int32) : Nat := (hbt x (nI 0)).toNat + (hbt x (nI 1)).toNat + (hbt x (nI 2)).toNat + (hbt x (nI 3)).toNat + (hbt x (nI 4)).toNat + (hbt x (nI 5)).toNat
theorem pc_le (x : Int32) : pcx x ≤ 6 := by
  have := fun n => Bool.toNat_le (hbt x (nI n))
  have a := this 0; have b := this 1; have c := this 2; have d := this 3; have e := this 4; have f := this 5
  unfold pcx; omega
theorem tn_le {a b : Bool} (h : a = true → b = true) : a.toNat ≤ b.toNat := by
  cases a with
  | false => exact Nat.zero_le _
  | true => rw [h rfl]; exact Nat.le_refl _
theorem pc_lt {x y : Int32} (hs : sub x y) {h : Nat} (hh : h < 6) (h1 : hbt x (nI h) = false) (h2 : hbt y (nI h) = true) : pcx x < pcx y := by
  have t := fun n hn => tn_le (hs n hn)
  have a := t 0 (by decide); have b := t 1 (by decide); have c := t 2 (by decide); have d := t 3 (by decide); have e := t 4 (by decide); have f := t 5 (by decide)
  have k1 : (hbt x (nI h)).toNat = 0 := by rw [h1]; rfl
  have k2 : (hbt y (nI h)).toNat = 1 := by rw [h2]; rfl
  have hk : h = 0 ∨ h = 1 ∨ h = 2 ∨ h = 3 ∨ h = 4 ∨ h = 5 := by omega
  unfold pcx
  rcases hk with rfl | rfl | rfl | rfl | rfl | rfl <;> omega
theorem pc_grow {x y : Int32} (hx : Bd 64 x) (hy : Bd 64 y) (hs : sub x y) (hne : ¬ y = x) : pcx x < pcx y := by
  refine Classical.byContradiction fun hc => hne (bd_ext hy hx (fun n hn => ?_))
  cases e : hbt x (nI n) with
  | true => exact hs n hn e
  | false =>
    cases e2 : hbt y (nI n) with
    | false => rfl
    | true => exact absurd (pc_lt hs hn e e2) hc
theorem cnt_k (ce : Nat → Int32) (h : Nat) (x : Int32) : ∀ n, ∃ k, k ≤ n ∧ cntN ce h x n = nI k ∧ (0 < k ↔ ∃ m, m < n ∧ (hbt x (nI m) && areB ce h m) = true)
  | 0 => ⟨0, Nat.le_refl _, rfl, ⟨fun e => absurd e (by decide), fun ⟨_, hm, _⟩ => absurd hm (Nat.not_lt_zero _)⟩⟩
  | n + 1 => by
    obtain ⟨k, hk, e, i⟩ := cnt_k ce h x n
    cases b : (hbt x (nI n) && areB ce h n) with
    | true => exact ⟨k + 1, by omega, by rw [cntN, b, e]; exact nI_1 k, ⟨fun _ => ⟨n, by omega, b⟩, fun _ => by omega⟩⟩
    | false =>
      refine ⟨k, by omega, by rw [cntN, b, e]; rfl, ⟨fun hp => ?_, fun ⟨m, hm, hb⟩ => ?_⟩⟩
      · obtain ⟨m, hm, hb⟩ := i.mp hp
        exact ⟨m, by omega, hb⟩
      · refine i.mpr ⟨m, ?_, hb⟩
        rcases Nat.lt_succ_iff_lt_or_eq.mp hm with h1 | h1
        · exact h1
        · subst h1; rw [b] at hb; exact absurd hb (by decide)
theorem cnt_pos (ce : Nat → Int32) (h : Nat) (x : Int32) {w : Nat} (hw : w < 100) : decide (0 < cntN ce h x w) = true ↔ ∃ m, m < w ∧ (hbt x (nI m) && areB ce h m) = true := by
  obtain ⟨k, hk, e, i⟩ := cnt_k ce h x w
  rw [← i, e, decide_eq_true_iff]
  constructor
  · intro hp
    cases k with
    | zero => exact absurd hp (by decide)
    | succ k => omega
  · intro hp
    exact nI_lt (a := 0) hp (by omega)
def CL (s : CS) (cov x : Int32) : Prop := ∀ h, h < 6 → ccB s h cov = true → (∃ m, m < 6 ∧ (hbt x (nI m) && areB (sce s) h m) = true) → hbt x (nI h) = true
theorem flIn_1 {s : CS} {cov x : Int32} {h : Nat} (c : (ccB s h cov && decide (0 < cntN (sce s) h (flIn s cov x h) 6)) = true) : flIn s cov x (h + 1) = orB (flIn s cov x h) h := by rw [flIn, c]; rfl
theorem flIn_0 {s : CS} {cov x : Int32} {h : Nat} (c : (ccB s h cov && decide (0 < cntN (sce s) h (flIn s cov x h) 6)) = false) : flIn s cov x (h + 1) = flIn s cov x h := by rw [flIn, c]; rfl
theorem flIn_bd {s : CS} {cov x : Int32} (hx : Bd 64 x) : ∀ h, h ≤ 6 → Bd 64 (flIn s cov x h)
  | 0, _ => hx
  | h + 1, hh => by
    cases c : (ccB s h cov && decide (0 < cntN (sce s) h (flIn s cov x h) 6)) with
    | true => rw [flIn_1 c]; exact (flIn_bd hx h (by omega)).or (by omega)
    | false => rw [flIn_0 c]; exact flIn_bd hx h (by omega)
theorem flIn_st {s : CS} {cov x : Int32} (hx : Bd 64 x) {h : Nat} (hh : h < 6) : sub (flIn s cov x h) (flIn s cov x (h + 1)) := by
  cases c : (ccB s h cov && decide (0 < cntN (sce s) h (flIn s cov x h) 6)) with
  | true => rw [flIn_1 c]; exact sub_or (flIn_bd hx h (by omega)) hh
  | false => rw [flIn_0 c]; exact sub_rfl _
theorem flIn_mo {s : CS} {cov x : Int32} (hx : Bd 64 x) (h : Nat) : ∀ k, h + k ≤ 6 → sub (flIn s cov x h) (flIn s cov x (h + k))
  | 0, _ => sub_rfl _
  | k + 1, hk => sub_tr (flIn_mo hx h k (by omega)) (flIn_st hx (h := h + k) (by omega))
theorem flIn_lst {s : CS} {cov x y : Int32} (hx : Bd 64 x) (hy : CL s cov y) (hs : sub x y) : ∀ h, h ≤ 6 → sub (flIn s cov x h) y
  | 0, _ => hs
  | h + 1, hh => by
    have ih := flIn_lst hx hy hs h (by omega)
    cases c : (ccB s h cov && decide (0 < cntN (sce s) h (flIn s cov x h) 6)) with
    | false => rw [flIn_0 c]; exact ih
    | true =>
      rw [flIn_1 c]
      intro n hn hb
      rw [hb_or (flIn_bd hx h (by omega)) (by omega) hn, Bool.or_eq_true] at hb
      rcases hb with hb | hb
      · exact ih n hn hb
      · have e : n = h := of_decide_eq_true hb
        subst e
        rw [Bool.and_eq_true] at c
        obtain ⟨m, hm, hq⟩ := (cnt_pos _ _ _ (by decide)).mp c.2
        rw [Bool.and_eq_true] at hq
        exact hy n hn c.1 ⟨m, hm, by rw [ih m hm hq.1, hq.2]; rfl⟩
theorem flIn_cl {s : CS} {cov x : Int32} (hx : Bd 64 x) {w : Nat} (hw : w = 6) (he : flIn s cov x w = x) : CL s cov x := by
  have all : ∀ h, h ≤ 6 → flIn s cov x h = x := fun h hh => by
    refine sub_ext (flIn_bd hx h hh) hx ?_ ?_
    · have := flIn_mo (s := s) (cov := cov) hx h (6 - h) (by omega)
      rw [show h + (6 - h) = w by omega, he] at this
      exact this
    · have := flIn_mo (s := s) (cov := cov) hx 0 h (by omega)
      rw [Nat.zero_add] at this
      exact this
  intro h hh hc hm
  have c : (ccB s h cov && decide (0 < cntN (sce s) h (flIn s cov x h) 6)) = true := by
    rw [hc, all h (by omega), (cnt_pos _ _ _ (by decide)).mpr hm]; rfl
  have e := flIn_1 c
  rw [all h (by omega), all (h + 1) (by omega)] at e
  rw [e, hb_or hx hh hh]
  simp
/-- what grows from a heap -/
def JX (s : CS) (cov : Int32) (f : Nat) (x : Int32) : Prop := Bd 64 x ∧ hbt x (nI f) = true ∧ ∀ y, CL s cov y → hbt y (nI f) = true → sub x y
theorem jx_0 {s : CS} {cov : Int32} {f : Nat} (hf : f < 6) : JX s cov f (1 <<< (nI f &&& 31)) :=
  ⟨⟨_, (bd_1 f hf).2, (bd_1 f hf).1⟩, hb_1 f hf, fun y _ hy n hn e => by rw [hb_1e f hf n hn e]; exact hy⟩
theorem jx_in {s : CS} {cov : Int32} {f : Nat} {x : Int32} (hf : f < 6) (h : JX s cov f x) {w : Nat} (hw : w = 6) : JX s cov f (flIn s cov x w) := by
  refine ⟨flIn_bd h.1 w (by omega), ?_, fun y hy hb => flIn_lst h.1 hy (h.2.2 y hy hb) w (by omega)⟩
  have := flIn_mo (s := s) (cov := cov) h.1 0 w (by omega)
  rw [Nat.zero_add] at this
  exact this f hf h.2.1
theorem jx_out {s : CS} {cov : Int32} {f : Nat} (hf : f < 6) : ∀ r, JX s cov f (flOut s cov f r)
  | 0 => jx_0 hf
  | r + 1 => by
    have h := jx_in hf (jx_out (s := s) (cov := cov) hf r) (w := 6) rfl
    exact h
theorem flOut_gr {s : CS} {cov : Int32} {f : Nat} (hf : f < 6) : ∀ r, (∃ q, q < r ∧ flOut s cov f (q + 1) = flOut s cov f q) ∨ r ≤ pcx (flOut s cov f r)
  | 0 => .inr (Nat.zero_le _)
  | r + 1 => by
    rcases flOut_gr (s := s) (cov := cov) hf r with ⟨q, hq, e⟩ | h
    · exact .inl ⟨q, by omega, e⟩
    · by_cases e : flOut s cov f (r + 1) = flOut s cov f r
      · exact .inl ⟨r, by omega, e⟩
      · refine .inr ?_
        have g := pc_grow (jx_out hf r).1 (jx_out hf (r + 1)).1 (by
          have h1 := flIn_mo (s := s) (cov := cov) (jx_out (s := s) (cov := cov) hf r).1 0 6 (by decide)
          exact h1) e
        omega
theorem flOut_1 {s : CS} {cov : Int32} {f : Nat} (hf : f < 6) : 1 ≤ pcx (flOut s cov f 0) := by
  have h := pc_lt (x := 0) (y := flOut s cov f 0) (fun n hn e => by rw [hb_0 n hn] at e; exact absurd e (by decide)) hf (hb_0 f hf) (hb_1 f hf)
  omega
theorem flOut_gs {s : CS} {cov : Int32} {f : Nat} (hf : f < 6) : ∀ r, (∃ q, q < r ∧ flOut s cov f (q + 1) = flOut s cov f q) ∨ r + 1 ≤ pcx (flOut s cov f r)
  | 0 => .inr (flOut_1 hf)
  | r + 1 => by
    rcases flOut_gs (s := s) (cov := cov) hf r with ⟨q, hq, e⟩ | h
    · exact .inl ⟨q, by omega, e⟩
    · by_cases e : flOut s cov f (r + 1) = flOut s cov f r
      · exact .inl ⟨r, by omega, e⟩
      · refine .inr ?_
        have g := pc_grow (jx_out hf r).1 (jx_out hf (r + 1)).1 (by
          have h1 := flIn_mo (s := s) (cov := cov) (jx_out (s := s) (cov := cov) hf r).1 0 6 (by decide)
          exact h1) e
        omega
theorem flOut_cl {s : CS} {cov : Int32} {f : Nat} (hf : f < 6) {r : Nat} (hr : r = 6) : CL s cov (flOut s cov f r) := by
  have e : flOut s cov f (r + 1) = flOut s cov f r := by
    rcases flOut_gs (s := s) (cov := cov) hf r with ⟨q, hq, e⟩ | h
    · have a := flOut_fix e (r - q)
      have b := flOut_fix e (r + 1 - q)
      rw [show q + (r - q) = r by omega] at a
      rw [show q + (r + 1 - q) = r + 1 by omega] at b
      rw [a, b]
    · have := pc_le (flOut s cov f r)
      omega
  exact flIn_cl (jx_out hf r).1 rfl e
/-- the reference's round -/
def jP (s : CS) (cov p : Int32) (h n : Nat) : Bool := ccB s h cov && (hbt p (nI n) && areB (sce s) h n)
def jQ (s : CS) (cov p x : Int32) (h n : Nat) : Int32 := bif anyB (jP s cov p h) n then orB x h else x
def jR (s : CS) (cov p : Int32) : Nat → Int32
  | 0 => p
  | h + 1 => jQ s cov p (jR s cov p h) h 6
theorem or_z (x : Int32) : x ||| 0 = x := by simp
theorem or_i (x b : Int32) : x ||| b ||| b = x ||| b := by rw [Int32.or_assoc, Int32.or_self]
theorem jQ_0 {s : CS} {cov p x : Int32} {h n : Nat} (hj : jP s cov p h n = false) : jQ s cov p x h n ||| 0 = jQ s cov p x h (n + 1) := by
  rw [or_z, jQ, jQ, anyB, hj, Bool.or_false]
theorem jQ_1 {s : CS} {cov p x : Int32} {h n : Nat} (hj : jP s cov p h n = true) : jQ s cov p x h n ||| (1 <<< (nI h &&& 31)) = jQ s cov p x h (n + 1) := by
  rw [jQ, jQ, anyB, hj, Bool.or_true]
  cases anyB (jP s cov p h) n with
  | true => exact or_i x _
  | false => rfl
theorem jR_1 {s : CS} {cov p : Int32} {h : Nat} (c : anyB (jP s cov p h) 6 = true) : jR s cov p (h + 1) = orB (jR s cov p h) h := by
  show jQ s cov p (jR s cov p h) h 6 = _
  rw [jQ, c]; rfl
theorem jR_0 {s : CS} {cov p : Int32} {h : Nat} (c : anyB (jP s cov p h) 6 = false) : jR s cov p (h + 1) = jR s cov p h := by
  show jQ s cov p (jR s cov p h) h 6 = _
  rw [jQ, c]; rfl
theorem jQ_f {s : CS} {cov p : Int32} {h : Nat} (c : ccB s h cov = false) (n : Nat) : jR s cov p (h + 1) = jQ s cov p (jR s cov p h) h n := by
  have f : ∀ n, anyB (jP s cov p h) n = false := fun n => anyB_f (fun i _ => by rw [jP, c]; rfl)
  show jQ s cov p (jR s cov p h) h 6 = _
  rw [jQ, jQ, f, f]
theorem anyB_e {p : Nat → Bool} : ∀ {n}, anyB p n = true → ∃ m, m < n ∧ p m = true
  | 0, h => Bool.noConfusion h
  | n + 1, h => by
    rw [anyB, Bool.or_eq_true] at h
    rcases h with h | h
    · obtain ⟨m, hm, e⟩ := anyB_e h
      exact ⟨m, by omega, e⟩
    · exact ⟨n, by omega, h⟩
theorem jR_bd {s : CS} {cov p : Int32} (hx : Bd 64 p) : ∀ h, h ≤ 6 → Bd 64 (jR s cov p h)
  | 0, _ => hx
  | h + 1, hh => by
    cases c : anyB (jP s cov p h) 6 with
    | true => rw [jR_1 c]; exact (jR_bd hx h (by omega)).or (by omega)
    | false => rw [jR_0 c]; exact jR_bd hx h (by omega)
theorem jR_st {s : CS} {cov p : Int32} (hx : Bd 64 p) {h : Nat} (hh : h < 6) : sub (jR s cov p h) (jR s cov p (h + 1)) := by
  cases c : anyB (jP s cov p h) 6 with
  | true => rw [jR_1 c]; exact sub_or (jR_bd hx h (by omega)) hh
  | false => rw [jR_0 c]; exact sub_rfl _
theorem jR_mo {s : CS} {cov p : Int32} (hx : Bd 64 p) (h : Nat) : ∀ k, h + k ≤ 6 → sub (jR s cov p h) (jR s cov p (h + k))
  | 0, _ => sub_rfl _
  | k + 1, hk => sub_tr (jR_mo hx h k (by omega)) (jR_st hx (h := h + k) (by omega))
theorem jR_lst {s : CS} {cov p y : Int32} (hx : Bd 64 p) (hy : CL s cov y) (hs : sub p y) : ∀ h, h ≤ 6 → sub (jR s cov p h) y
  | 0, _ => hs
  | h + 1, hh => by
    have ih := jR_lst hx hy hs h (by omega)
    cases c : anyB (jP s cov p h) 6 with
    | false => rw [jR_0 c]; exact ih
    | true =>
      rw [jR_1 c]
      intro n hn hb
      rw [hb_or (jR_bd hx h (by omega)) (by omega) hn, Bool.or_eq_true] at hb
      rcases hb with hb | hb
      · exact ih n hn hb
      · have e : n = h := of_decide_eq_true hb
        subst e
        obtain ⟨m, hm, hq⟩ := anyB_e c
        rw [jP, Bool.and_eq_true, Bool.and_eq_true] at hq
        exact hy n hn hq.1 ⟨m, hm, by rw [hs m hm hq.2.1, hq.2.2]; rfl⟩
theorem jR_cl {s : CS} {cov x : Int32} (hx : Bd 64 x) {w : Nat} (hw : w = 6) (he : jR s cov x w = x) : CL s cov x := by
  have all : ∀ h, h ≤ 6 → jR s cov x h = x := fun h hh => by
    refine sub_ext (jR_bd hx h hh) hx ?_ ?_
    · have := jR_mo (s := s) (cov := cov) hx h (6 - h) (by omega)
      rw [show h + (6 - h) = w by omega, he] at this
      exact this
    · have := jR_mo (s := s) (cov := cov) hx 0 h (by omega)
      rw [Nat.zero_add] at this
      exact this
  intro h hh hc ⟨m, hm, hq⟩
  have c : anyB (jP s cov x h) 6 = true := anyB_t hm (by rw [jP, hc, hq]; rfl)
  have e := jR_1 c
  rw [all h (by omega), all (h + 1) (by omega)] at e
  rw [e, hb_or hx hh hh]
  simp
theorem jx_R {s : CS} {cov : Int32} {f : Nat} {x : Int32} (hf : f < 6) (h : JX s cov f x) {w : Nat} (hw : w = 6) : JX s cov f (jR s cov x w) := by
  refine ⟨jR_bd h.1 w (by omega), ?_, fun y hy hb => jR_lst h.1 hy (h.2.2 y hy hb) w (by omega)⟩
  have := jR_mo (s := s) (cov := cov) h.1 0 w (by omega)
  rw [Nat.zero_add] at this
  exact this f hf h.2.1
theorem jx_end {s : CS} {cov : Int32} {f : Nat} {x : Int32} (hf : f < 6) (h : JX s cov f x) {w : Nat} (hw : w = 6) (he : jR s cov x w = x) {r : Nat} (hr : r = 6) : x = flOut s cov f r := by
  have a := jx_out (s := s) (cov := cov) hf r
  exact sub_ext h.1 a.1 (h.2.2 _ (flOut_cl hf hr) a.2.1) (a.2.2 _ (jR_cl h.1 hw he) h.2.1)
theorem jx_nx {s : CS} {cov : Int32} {f : Nat} {x : Int32} (h : JX s cov f x) {w : Nat} (hw : w = 6) {k : Nat} (hk : 7 ≤ k + 1 + pcx x) : jR s cov x w = x ∨ 7 ≤ k + pcx (jR s cov x w) := by
  by_cases e : jR s cov x w = x
  · exact .inl e
  · refine .inr ?_
    have m := jR_mo (s := s) (cov := cov) h.1 0 w (by omega)
    rw [Nat.zero_add] at m
    have g := pc_grow h.1 (jR_bd h.1 w (by omega)) m e
    omega
theorem tu3 {x : Int32} : 3 ≤ x ↔ ¬ x ≤ 2 := by
  rw [Int32.le_iff_toInt_le, Int32.le_iff_toInt_le, show (3 : Int32).toInt = 3 from rfl, show (2 : Int32).toInt = 2 from rfl]
  omega

set_option maxHeartbeats 4000000 in
set_option maxRecDepth 20000 in
theorem m_chainOf (d : Nat) (bu fl fa fw fr rs ac : Int32) (q n : Nat) (s : CS) (hs : OkS s) (f : Nat) (hf : f < 6) (cov : Int32) : FC YX7_chainOf (d + 2) [.ref 38, .int (nI f), .int cov, .null, .null, .null, .null, .null] [(38, .inr (7, [.ref 39, .ref 40, .int bu, .int (nI q), .ref 41, .int (nI n), .ref 42, .int fl, .int fa, .int fw, .int fr, .int rs, .int ac, .ref 43, .ref 44, .ref 45, .ref 46, .ref 47, .ref 48, .ref 49])), (39, .inl (false, 22, (bkF s)))] (some (.int (flOut s cov f 6))) [(38, .inr (7, [.ref 39, .ref 40, .int bu, .int (nI q), .ref 41, .int (nI n), .ref 42, .int fl, .int fa, .int fw, .int fr, .int rs, .int ac, .ref 43, .ref 44, .ref 45, .ref 46, .ref 47, .ref 48, .ref 49])), (39, .inl (false, 22, (bkF s)))] := by
  intro hp
  refine E_iconst (v := 1) dX7_chainOf_0 (by decide) ?_
  refine E_iload_n dX7_chainOf_1 rfl ?_
  refine E_ishl dX7_chainOf_2 ?_
  refine E_istore_n (l2 := [.ref 38, .int (nI f), .int cov, .int (1 <<< (nI f &&& 31)), .null, .null, .null, .null]) dX7_chainOf_3 rfl (by decide) rfl ?_
  refine E_iconst (v := 0) dX7_chainOf_4 (by decide) ?_
  refine E_istore (l2 := [.ref 38, .int (nI f), .int cov, .int (1 <<< (nI f &&& 31)), .int 0, .null, .null, .null]) dX7_chainOf_5 (by decide) rfl ?_
  have L : ∀ (k : Nat) (x p : Int32) (l5 l6 l7 : Value), JX s cov f x → (x = p → jR s cov x 6 = x) → (x = p ∨ 7 ≤ k + pcx x) → E YX7_chainOf (d + 2) 7 [.ref 38, .int (nI f), .int cov, .int x, .int p, l5, l6, l7] [] (hov hp [(38, .inr (7, [.ref 39, .ref 40, .int bu, .int (nI q), .ref 41, .int (nI n), .ref 42, .int fl, .int fa, .int fw, .int fr, .int rs, .int ac, .ref 43, .ref 44, .ref 45, .ref 46, .ref 47, .ref 48, .ref 49])), (39, .inl (false, 22, (bkF s)))]) (fun v h' => v = some (.int (flOut s cov f 6)) ∧ h' = hov hp [(38, .inr (7, [.ref 39, .ref 40, .int bu, .int (nI q), .ref 41, .int (nI n), .ref 42, .int fl, .int fa, .int fw, .int fr, .int rs, .int ac, .ref 43, .ref 44, .ref 45, .ref 46, .ref 47, .ref 48, .ref 49])), (39, .inl (false, 22, (bkF s)))]) := by
    intro k
    induction k with
    | zero =>
      intro x p l5 l6 l7 hJ hst hms
      have hxp : x = p := by
        rcases hms with e | e
        · exact e
        · have := pc_le x; omega
      refine E_iload_n dX7_chainOf_7 rfl ?_
      refine E_iload dX7_chainOf_8 rfl ?_
      refine E_icmp_eq (tgt := 150) dX7_chainOf_10 (by decide) (fun _ => ?_) (fun c => absurd hxp c)
      refine E_iload_n dX7_chainOf_150 rfl ?_
      exact E_iretf dX7_chainOf_151 rfl rfl (jx_end hf hJ rfl (hst hxp) rfl) rfl
    | succ k ih =>
      intro x p l5 l6 l7 hJ hst hms
      by_cases hxp : x = p
      · refine E_iload_n dX7_chainOf_7 rfl ?_
        refine E_iload dX7_chainOf_8 rfl ?_
        refine E_icmp_eq (tgt := 150) dX7_chainOf_10 (by decide) (fun _ => ?_) (fun c => absurd hxp c)
        refine E_iload_n dX7_chainOf_150 rfl ?_
        exact E_iretf dX7_chainOf_151 rfl rfl (jx_end hf hJ rfl (hst hxp) rfl) rfl
      · have hm7 : 7 ≤ k + 1 + pcx x := hms.resolve_left hxp
        have hnx := jx_nx hJ rfl hm7
        have hJ2 := jx_R hf hJ (w := 6) rfl
        have L2 : ∀ i, i ≤ 6 → ∀ l6 l7 : Value, E YX7_chainOf (d + 2) 19 [.ref 38, .int (nI f), .int cov, .int (jR s cov x i), .int x, .int (nI i), l6, l7] [] (hov hp [(38, .inr (7, [.ref 39, .ref 40, .int bu, .int (nI q), .ref 41, .int (nI n), .ref 42, .int fl, .int fa, .int fw, .int fr, .int rs, .int ac, .ref 43, .ref 44, .ref 45, .ref 46, .ref 47, .ref 48, .ref 49])), (39, .inl (false, 22, (bkF s)))]) (fun v h' => v = some (.int (flOut s cov f 6)) ∧ h' = hov hp [(38, .inr (7, [.ref 39, .ref 40, .int bu, .int (nI q), .ref 41, .int (nI n), .ref 42, .int fl, .int fa, .int fw, .int fr, .int rs, .int ac, .ref 43, .ref 44, .ref 45, .ref 46, .ref 47, .ref 48, .ref 49])), (39, .inl (false, 22, (bkF s)))]) := by
          refine down 6 ?_ ?_
          · intro l6 l7
            refine E_iload dX7_chainOf_19 rfl ?_
            refine E_bipush (v := 6) dX7_chainOf_21 (by decide) ?_
            refine E_icmp_ge (tgt := 147) dX7_chainOf_23 (by decide) (fun _ => ?_) (fun c => absurd (by decide) c)
            refine E_goto (tgt := 7) dX7_chainOf_147 (by decide) ?_
            exact ih _ _ _ _ _ hJ2 (fun e => by rw [e]; exact e) hnx
          · intro i hi ihi l6 l7
            have Ln : ∀ j, j ≤ 6 → E YX7_chainOf (d + 2) 69 [.ref 38, .int (nI f), .int cov, .int (jQ s cov x (jR s cov x i) i j), .int x, .int (nI i), .int (b2i (ccB s i cov)), .int (nI j)] [] (hov hp [(38, .inr (7, [.ref 39, .ref 40, .int bu, .int (nI q), .ref 41, .int (nI n), .ref 42, .int fl, .int fa, .int fw, .int fr, .int rs, .int ac, .ref 43, .ref 44, .ref 45, .ref 46, .ref 47, .ref 48, .ref 49])), (39, .inl (false, 22, (bkF s)))]) (fun v h' => v = some (.int (flOut s cov f 6)) ∧ h' = hov hp [(38, .inr (7, [.ref 39, .ref 40, .int bu, .int (nI q), .ref 41, .int (nI n), .ref 42, .int fl, .int fa, .int fw, .int fr, .int rs, .int ac, .ref 43, .ref 44, .ref 45, .ref 46, .ref 47, .ref 48, .ref 49])), (39, .inl (false, 22, (bkF s)))]) := by
              refine down 6 ?_ ?_
              · refine E_iload dX7_chainOf_69 rfl ?_
                refine E_bipush (v := 6) dX7_chainOf_71 (by decide) ?_
                refine E_icmp_ge (tgt := 141) dX7_chainOf_73 (by decide) (fun _ => ?_) (fun c => absurd (by decide) c)
                refine E_iinc (y := nI (i + 1)) (l2 := [.ref 38, .int (nI f), .int cov, .int (jQ s cov x (jR s cov x i) i 6), .int x, .int (nI (i + 1)), .int (b2i (ccB s i cov)), .int (nI 6)]) dX7_chainOf_141 rfl (nI_1 _) (by decide) rfl ?_
                refine E_goto (tgt := 19) dX7_chainOf_144 (by decide) ?_
                exact ihi _ _
              · intro j hj ihj
                refine E_iload dX7_chainOf_69 rfl ?_
                refine E_bipush (v := 6) dX7_chainOf_71 (by decide) ?_
                refine E_icmp_ge (tgt := 141) dX7_chainOf_73 (by decide) (fun c => absurd c (cI_nle (n := 6) rfl hj (by decide))) (fun _ => ?_)
                refine E_iload dX7_chainOf_76 rfl ?_
                refine E_if_eq (tgt := 141) dX7_chainOf_78 (by decide) (fun c78 => ?_) (fun c78 => ?_)
                · have c78 := b2i_e0 c78
                  refine E_iinc (y := nI (i + 1)) (l2 := [.ref 38, .int (nI f), .int cov, .int (jQ s cov x (jR s cov x i) i j), .int x, .int (nI (i + 1)), .int (b2i (ccB s i cov)), .int (nI j)]) dX7_chainOf_141 rfl (nI_1 _) (by decide) rfl ?_
                  refine E_goto (tgt := 19) dX7_chainOf_144 (by decide) ?_
                  have e9 := ihi (.int (b2i (ccB s i cov))) (.int (nI j))
                  rw [jQ_f c78 j] at e9
                  exact e9
                · have c78 := b2i_n0 c78
                  refine E_iload_n dX7_chainOf_81 rfl ?_
                  refine E_iload dX7_chainOf_82 rfl ?_
                  refine E_iload dX7_chainOf_84 rfl ?_
                  refine E_callS (As := [.int x, .int (nI j)]) (l' := [.int x, .int (nI j)]) (st := [.int (jQ s cov x (jR s cov x i) i j)]) dX7_chainOf_86 kX7_80 sX7_has MX7_has rfl rfl (Nat.le_of_ble_eq_true rfl) (FC.use (c_has (d + 1) _ _) rfl (L2 := [(38, .inr (7, [.ref 39, .ref 40, .int bu, .int (nI q), .ref 41, .int (nI n), .ref 42, .int fl, .int fa, .int fw, .int fr, .int rs, .int ac, .ref 43, .ref 44, .ref 45, .ref 46, .ref 47, .ref 48, .ref 49])), (39, .inl (false, 22, (bkF s)))]) rfl) (Nat.le_of_ble_eq_true rfl) (fun _ _ hq9 => E_fgo ?_ hq9)
                  show E _ _ 89 [.ref 38, .int (nI f), .int cov, .int (jQ s cov x (jR s cov x i) i j), .int x, .int (nI i), .int (b2i (ccB s i cov)), .int (nI j)] [.int (b2i (hbt x (nI j))), .int (jQ s cov x (jR s cov x i) i j)] (hov hp [(38, .inr (7, [.ref 39, .ref 40, .int bu, .int (nI q), .ref 41, .int (nI n), .ref 42, .int fl, .int fa, .int fw, .int fr, .int rs, .int ac, .ref 43, .ref 44, .ref 45, .ref 46, .ref 47, .ref 48, .ref 49])), (39, .inl (false, 22, (bkF s)))]) _
                  refine E_if_eq (tgt := 132) dX7_chainOf_89 (by decide) (fun c89 => ?_) (fun c89 => ?_)
                  · have c89 := b2i_e0 c89
                    refine E_iconst (v := 0) dX7_chainOf_132 (by decide) ?_
                    refine E_ior dX7_chainOf_133 ?_
                    refine E_eqi (y := jQ s cov x (jR s cov x i) i (j + 1)) (jQ_0 (by simp [jP, areB, c78, c89])) ?_
                    refine E_istore_n (l2 := [.ref 38, .int (nI f), .int cov, .int (jQ s cov x (jR s cov x i) i (j + 1)), .int x, .int (nI i), .int (b2i (ccB s i cov)), .int (nI j)]) dX7_chainOf_134 rfl (by decide) rfl ?_
                    refine E_iinc (y := nI (j + 1)) (l2 := [.ref 38, .int (nI f), .int cov, .int (jQ s cov x (jR s cov x i) i (j + 1)), .int x, .int (nI i), .int (b2i (ccB s i cov)), .int (nI (j + 1))]) dX7_chainOf_135 rfl (nI_1 _) (by decide) rfl ?_
                    refine E_goto (tgt := 69) dX7_chainOf_138 (by decide) ?_
                    exact ihj
                  · have c89 := b2i_n0 c89
                    refine E_iload dX7_chainOf_92 rfl ?_
                    refine E_iload dX7_chainOf_94 rfl ?_
                    refine E_icmp_eq (tgt := 132) dX7_chainOf_96 (by decide) (fun c96 => ?_) (fun c96 => ?_)
                    · have cb : i = j := (nI_inj (by omega) (by omega) c96).symm
                      refine E_iconst (v := 0) dX7_chainOf_132 (by decide) ?_
                      refine E_ior dX7_chainOf_133 ?_
                      refine E_eqi (y := jQ s cov x (jR s cov x i) i (j + 1)) (jQ_0 (by simp [jP, areB, c78, c89, cb])) ?_
                      refine E_istore_n (l2 := [.ref 38, .int (nI f), .int cov, .int (jQ s cov x (jR s cov x i) i (j + 1)), .int x, .int (nI i), .int (b2i (ccB s i cov)), .int (nI j)]) dX7_chainOf_134 rfl (by decide) rfl ?_
                      refine E_iinc (y := nI (j + 1)) (l2 := [.ref 38, .int (nI f), .int cov, .int (jQ s cov x (jR s cov x i) i (j + 1)), .int x, .int (nI i), .int (b2i (ccB s i cov)), .int (nI (j + 1))]) dX7_chainOf_135 rfl (nI_1 _) (by decide) rfl ?_
                      refine E_goto (tgt := 69) dX7_chainOf_138 (by decide) ?_
                      exact ihj
                    · have cb : ¬ i = j := fun h => c96 (by rw [h])
                      refine E_aload_n dX7_chainOf_99 rfl ?_
                      refine E_get dX7_chainOf_100 fX7_7 (by decide) rfl rfl ?_
                      refine E_bipush (v := 12) dX7_chainOf_103 (by decide) ?_
                      refine E_iload dX7_chainOf_105 rfl ?_
                      refine E_iadd dX7_chainOf_107 ?_
                      refine E_eqi (y := nI (12 + i)) (nI_add 12 _) ?_
                      refine E_ialdN (j := 12 + i) dX7_chainOf_108 (by decide) rfl (by omega) (by decide) ?_
                      refine E_eqi (y := sce s i) (bk_c hi) ?_
                      refine E_aload_n dX7_chainOf_109 rfl ?_
                      refine E_get dX7_chainOf_110 fX7_7 (by decide) rfl rfl ?_
                      refine E_bipush (v := 12) dX7_chainOf_113 (by decide) ?_
                      refine E_iload dX7_chainOf_115 rfl ?_
                      refine E_iadd dX7_chainOf_117 ?_
                      refine E_eqi (y := nI (12 + j)) (nI_add 12 _) ?_
                      refine E_ialdN (j := 12 + j) dX7_chainOf_118 (by decide) rfl (by omega) (by decide) ?_
                      refine E_eqi (y := sce s j) (bk_c hj) ?_
                      refine E_callS (As := [.int (sce s i), .int (sce s j)]) (l' := [.int (sce s i), .int (sce s j)]) (st := [.int (jQ s cov x (jR s cov x i) i j)]) dX7_chainOf_119 kX7_84 sX7_areNear MX7_areNear rfl rfl (Nat.le_of_ble_eq_true rfl) (FC.use (c_nrM d _ _) rfl (L2 := [(38, .inr (7, [.ref 39, .ref 40, .int bu, .int (nI q), .ref 41, .int (nI n), .ref 42, .int fl, .int fa, .int fw, .int fr, .int rs, .int ac, .ref 43, .ref 44, .ref 45, .ref 46, .ref 47, .ref 48, .ref 49])), (39, .inl (false, 22, (bkF s)))]) rfl) (Nat.le_of_ble_eq_true rfl) (fun _ _ hq9 => E_fgo ?_ hq9)
                      show E _ _ 122 [.ref 38, .int (nI f), .int cov, .int (jQ s cov x (jR s cov x i) i j), .int x, .int (nI i), .int (b2i (ccB s i cov)), .int (nI j)] [.int (b2i (nrM (sce s i) (sce s j))), .int (jQ s cov x (jR s cov x i) i j)] (hov hp [(38, .inr (7, [.ref 39, .ref 40, .int bu, .int (nI q), .ref 41, .int (nI n), .ref 42, .int fl, .int fa, .int fw, .int fr, .int rs, .int ac, .ref 43, .ref 44, .ref 45, .ref 46, .ref 47, .ref 48, .ref 49])), (39, .inl (false, 22, (bkF s)))]) _
                      refine E_if_eq (tgt := 132) dX7_chainOf_122 (by decide) (fun c122 => ?_) (fun c122 => ?_)
                      · have c122 := b2i_e0 c122
                        rw [nr_MC (hs.1 i hi) (hs.1 j hj)] at c122
                        refine E_iconst (v := 0) dX7_chainOf_132 (by decide) ?_
                        refine E_ior dX7_chainOf_133 ?_
                        refine E_eqi (y := jQ s cov x (jR s cov x i) i (j + 1)) (jQ_0 (by simp [jP, areB, c78, c89, cb, c122])) ?_
                        refine E_istore_n (l2 := [.ref 38, .int (nI f), .int cov, .int (jQ s cov x (jR s cov x i) i (j + 1)), .int x, .int (nI i), .int (b2i (ccB s i cov)), .int (nI j)]) dX7_chainOf_134 rfl (by decide) rfl ?_
                        refine E_iinc (y := nI (j + 1)) (l2 := [.ref 38, .int (nI f), .int cov, .int (jQ s cov x (jR s cov x i) i (j + 1)), .int x, .int (nI i), .int (b2i (ccB s i cov)), .int (nI (j + 1))]) dX7_chainOf_135 rfl (nI_1 _) (by decide) rfl ?_
                        refine E_goto (tgt := 69) dX7_chainOf_138 (by decide) ?_
                        exact ihj
                      · have c122 := b2i_n0 c122
                        rw [nr_MC (hs.1 i hi) (hs.1 j hj)] at c122
                        refine E_iconst (v := 1) dX7_chainOf_125 (by decide) ?_
                        refine E_iload dX7_chainOf_126 rfl ?_
                        refine E_ishl dX7_chainOf_128 ?_
                        refine E_goto (tgt := 133) dX7_chainOf_129 (by decide) ?_
                        refine E_ior dX7_chainOf_133 ?_
                        refine E_eqi (y := jQ s cov x (jR s cov x i) i (j + 1)) (jQ_1 (by simp [jP, areB, c78, c89, cb, c122])) ?_
                        refine E_istore_n (l2 := [.ref 38, .int (nI f), .int cov, .int (jQ s cov x (jR s cov x i) i (j + 1)), .int x, .int (nI i), .int (b2i (ccB s i cov)), .int (nI j)]) dX7_chainOf_134 rfl (by decide) rfl ?_
                        refine E_iinc (y := nI (j + 1)) (l2 := [.ref 38, .int (nI f), .int cov, .int (jQ s cov x (jR s cov x i) i (j + 1)), .int x, .int (nI i), .int (b2i (ccB s i cov)), .int (nI (j + 1))]) dX7_chainOf_135 rfl (nI_1 _) (by decide) rfl ?_
                        refine E_goto (tgt := 69) dX7_chainOf_138 (by decide) ?_
                        exact ihj
            refine E_iload dX7_chainOf_19 rfl ?_
            refine E_bipush (v := 6) dX7_chainOf_21 (by decide) ?_
            refine E_icmp_ge (tgt := 147) dX7_chainOf_23 (by decide) (fun c => absurd c (cI_nle (n := 6) rfl hi (by decide))) (fun _ => ?_)
            refine E_aload_n dX7_chainOf_26 rfl ?_
            refine E_get dX7_chainOf_27 fX7_7 (by decide) rfl rfl ?_
            refine E_iload dX7_chainOf_30 rfl ?_
            refine E_ialdN (j := i) dX7_chainOf_32 (by decide) rfl (by omega) (by decide) ?_
            refine E_eqi (y := she s i) (bk_h hi) ?_
            refine E_if_le (tgt := 63) dX7_chainOf_33 (by decide) (fun c33 => ?_) (fun c33 => ?_)
            · rw [← Int32.not_lt] at c33
              refine E_iconst (v := 0) dX7_chainOf_63 (by decide) ?_
              refine E_istore (l2 := [.ref 38, .int (nI f), .int cov, .int (jR s cov x i), .int x, .int (nI i), .int 0, l7]) dX7_chainOf_64 (by decide) rfl ?_
              refine E_iconst (v := 0) dX7_chainOf_66 (by decide) ?_
              refine E_istore (l2 := [.ref 38, .int (nI f), .int cov, .int (jR s cov x i), .int x, .int (nI i), .int 0, .int 0]) dX7_chainOf_67 (by decide) rfl ?_
              have e9 := Ln 0 (by decide)
              rw [show ccB s i cov = false from by simp [ccB, c33]] at e9
              exact e9
            · rw [Int32.not_le] at c33
              refine E_aload_n dX7_chainOf_36 rfl ?_
              refine E_get dX7_chainOf_37 fX7_7 (by decide) rfl rfl ?_
              refine E_bipush (v := 6) dX7_chainOf_40 (by decide) ?_
              refine E_iload dX7_chainOf_42 rfl ?_
              refine E_iadd dX7_chainOf_44 ?_
              refine E_eqi (y := nI (6 + i)) (nI_add 6 _) ?_
              refine E_ialdN (j := 6 + i) dX7_chainOf_45 (by decide) rfl (by omega) (by decide) ?_
              refine E_eqi (y := stu s i) (bk_t hi) ?_
              refine E_iconst (v := 3) dX7_chainOf_46 (by decide) ?_
              refine E_icmp_ge (tgt := 63) dX7_chainOf_47 (by decide) (fun c47 => ?_) (fun c47 => ?_)
              · rw [tu3] at c47
                refine E_iconst (v := 0) dX7_chainOf_63 (by decide) ?_
                refine E_istore (l2 := [.ref 38, .int (nI f), .int cov, .int (jR s cov x i), .int x, .int (nI i), .int 0, l7]) dX7_chainOf_64 (by decide) rfl ?_
                refine E_iconst (v := 0) dX7_chainOf_66 (by decide) ?_
                refine E_istore (l2 := [.ref 38, .int (nI f), .int cov, .int (jR s cov x i), .int x, .int (nI i), .int 0, .int 0]) dX7_chainOf_67 (by decide) rfl ?_
                have e9 := Ln 0 (by decide)
                rw [show ccB s i cov = false from by simp [ccB, c33, c47]] at e9
                exact e9
              · rw [tu3, Decidable.not_not] at c47
                refine E_iload_n dX7_chainOf_50 rfl ?_
                refine E_iload dX7_chainOf_51 rfl ?_
                refine E_callS (As := [.int cov, .int (nI i)]) (l' := [.int cov, .int (nI i)]) (st := []) dX7_chainOf_53 kX7_80 sX7_has MX7_has rfl rfl (Nat.le_of_ble_eq_true rfl) (FC.use (c_has (d + 1) _ _) rfl (L2 := [(38, .inr (7, [.ref 39, .ref 40, .int bu, .int (nI q), .ref 41, .int (nI n), .ref 42, .int fl, .int fa, .int fw, .int fr, .int rs, .int ac, .ref 43, .ref 44, .ref 45, .ref 46, .ref 47, .ref 48, .ref 49])), (39, .inl (false, 22, (bkF s)))]) rfl) (Nat.le_of_ble_eq_true rfl) (fun _ _ hq9 => E_fgo ?_ hq9)
                show E _ _ 56 [.ref 38, .int (nI f), .int cov, .int (jR s cov x i), .int x, .int (nI i), l6, l7] [.int (b2i (hbt cov (nI i)))] (hov hp [(38, .inr (7, [.ref 39, .ref 40, .int bu, .int (nI q), .ref 41, .int (nI n), .ref 42, .int fl, .int fa, .int fw, .int fr, .int rs, .int ac, .ref 43, .ref 44, .ref 45, .ref 46, .ref 47, .ref 48, .ref 49])), (39, .inl (false, 22, (bkF s)))]) _
                refine E_if_ne (tgt := 63) dX7_chainOf_56 (by decide) (fun c56 => ?_) (fun c56 => ?_)
                · have c56 := b2i_n0 c56
                  refine E_iconst (v := 0) dX7_chainOf_63 (by decide) ?_
                  refine E_istore (l2 := [.ref 38, .int (nI f), .int cov, .int (jR s cov x i), .int x, .int (nI i), .int 0, l7]) dX7_chainOf_64 (by decide) rfl ?_
                  refine E_iconst (v := 0) dX7_chainOf_66 (by decide) ?_
                  refine E_istore (l2 := [.ref 38, .int (nI f), .int cov, .int (jR s cov x i), .int x, .int (nI i), .int 0, .int 0]) dX7_chainOf_67 (by decide) rfl ?_
                  have e9 := Ln 0 (by decide)
                  rw [show ccB s i cov = false from by simp [ccB, c33, c47, c56]] at e9
                  exact e9
                · have c56 := b2i_e0 c56
                  refine E_iconst (v := 1) dX7_chainOf_59 (by decide) ?_
                  refine E_goto (tgt := 64) dX7_chainOf_60 (by decide) ?_
                  refine E_istore (l2 := [.ref 38, .int (nI f), .int cov, .int (jR s cov x i), .int x, .int (nI i), .int 1, l7]) dX7_chainOf_64 (by decide) rfl ?_
                  refine E_iconst (v := 0) dX7_chainOf_66 (by decide) ?_
                  refine E_istore (l2 := [.ref 38, .int (nI f), .int cov, .int (jR s cov x i), .int x, .int (nI i), .int 1, .int 0]) dX7_chainOf_67 (by decide) rfl ?_
                  have e9 := Ln 0 (by decide)
                  rw [show ccB s i cov = true from by simp [ccB, c33, c47, c56]] at e9
                  exact e9
        refine E_iload_n dX7_chainOf_7 rfl ?_
        refine E_iload dX7_chainOf_8 rfl ?_
        refine E_icmp_eq (tgt := 150) dX7_chainOf_10 (by decide) (fun c => absurd c hxp) (fun _ => ?_)
        refine E_iload_n dX7_chainOf_13 rfl ?_
        refine E_istore (l2 := [.ref 38, .int (nI f), .int cov, .int x, .int x, l5, l6, l7]) dX7_chainOf_14 (by decide) rfl ?_
        refine E_iconst (v := 0) dX7_chainOf_16 (by decide) ?_
        refine E_istore (l2 := [.ref 38, .int (nI f), .int cov, .int x, .int x, .int 0, l6, l7]) dX7_chainOf_17 (by decide) rfl ?_
        exact L2 0 (by decide) _ _
  exact L 7 _ _ _ _ _ (jx_0 hf) (fun e => absurd (hb_1 f hf) (by rw [e, hb_0 f hf]; decide)) (.inr (by omega))

set_option maxHeartbeats 4000000 in
set_option maxRecDepth 20000 in
theorem m_chain_unk (d : Nat) (bu fl fa fw fr rs ac : Int32) (q n : Nat) (x : Int32) (hx : inI x 0 5 = false) : FC YX7_chain (d + 3) [.ref 38, .int x] [(38, .inr (7, [.ref 39, .ref 40, .int bu, .int (nI q), .ref 41, .int (nI n), .ref 42, .int fl, .int fa, .int fw, .int fr, .int rs, .int ac, .ref 43, .ref 44, .ref 45, .ref 46, .ref 47, .ref 48, .ref 49]))] (some (.int (-1))) [(38, .inr (7, [.ref 39, .ref 40, .int bu, .int (nI q), .ref 41, .int (nI n), .ref 42, .int fl, .int fa, .int fw, .int fr, .int rs, .int ac, .ref 43, .ref 44, .ref 45, .ref 46, .ref 47, .ref 48, .ref 49]))] := by
  intro hp
  refine E_iload_n dX7_chain_0 rfl ?_
  refine E_callS (As := [.int x]) (l' := [.int x]) (st := []) dX7_chain_1 kX7_52 sX7_isHeap MX7_isHeap rfl rfl (Nat.le_of_ble_eq_true rfl) (FC.use (c_isHM (d + 1) _) rfl (L2 := [(38, .inr (7, [.ref 39, .ref 40, .int bu, .int (nI q), .ref 41, .int (nI n), .ref 42, .int fl, .int fa, .int fw, .int fr, .int rs, .int ac, .ref 43, .ref 44, .ref 45, .ref 46, .ref 47, .ref 48, .ref 49]))]) rfl) (Nat.le_of_ble_eq_true rfl) (fun _ _ hq9 => E_fgo ?_ hq9)
  show E _ _ 4 [.ref 38, .int x] [.int (b2i (inI x 0 5))] (hov hp [(38, .inr (7, [.ref 39, .ref 40, .int bu, .int (nI q), .ref 41, .int (nI n), .ref 42, .int fl, .int fa, .int fw, .int fr, .int rs, .int ac, .ref 43, .ref 44, .ref 45, .ref 46, .ref 47, .ref 48, .ref 49]))]) _
  refine E_if_ne (tgt := 9) dX7_chain_4 (by decide) (fun c => (b2i_x0 hx c).elim) (fun _ => ?_)
  refine E_iconst (v := (-1)) dX7_chain_7 (by decide) ?_
  exact E_iretf dX7_chain_8 rfl rfl rfl rfl

set_option maxHeartbeats 4000000 in
set_option maxRecDepth 20000 in
theorem m_chain_state (d : Nat) (bu fl fa fw fr rs ac : Int32) (q n : Nat) (s : CS) (hs : OkS s) (h : Nat) (hh : h < 6) (hx : inI (nI h) 0 5 = true) (ha : ¬ 0 < she s h) : FC YX7_chain (d + 3) [.ref 38, .int (nI h)] [(38, .inr (7, [.ref 39, .ref 40, .int bu, .int (nI q), .ref 41, .int (nI n), .ref 42, .int fl, .int fa, .int fw, .int fr, .int rs, .int ac, .ref 43, .ref 44, .ref 45, .ref 46, .ref 47, .ref 48, .ref 49])), (39, .inl (false, 22, (bkF s)))] (some (.int (-3))) [(38, .inr (7, [.ref 39, .ref 40, .int bu, .int (nI q), .ref 41, .int (nI n), .ref 42, .int fl, .int fa, .int fw, .int fr, .int rs, .int ac, .ref 43, .ref 44, .ref 45, .ref 46, .ref 47, .ref 48, .ref 49])), (39, .inl (false, 22, (bkF s)))] := by
  intro hp
  refine E_iload_n dX7_chain_0 rfl ?_
  refine E_callS (As := [.int (nI h)]) (l' := [.int (nI h)]) (st := []) dX7_chain_1 kX7_52 sX7_isHeap MX7_isHeap rfl rfl (Nat.le_of_ble_eq_true rfl) (FC.use (c_isHM (d + 1) _) rfl (L2 := [(38, .inr (7, [.ref 39, .ref 40, .int bu, .int (nI q), .ref 41, .int (nI n), .ref 42, .int fl, .int fa, .int fw, .int fr, .int rs, .int ac, .ref 43, .ref 44, .ref 45, .ref 46, .ref 47, .ref 48, .ref 49])), (39, .inl (false, 22, (bkF s)))]) rfl) (Nat.le_of_ble_eq_true rfl) (fun _ _ hq9 => E_fgo ?_ hq9)
  show E _ _ 4 [.ref 38, .int (nI h)] [.int (b2i (inI (nI h) 0 5))] (hov hp [(38, .inr (7, [.ref 39, .ref 40, .int bu, .int (nI q), .ref 41, .int (nI n), .ref 42, .int fl, .int fa, .int fw, .int fr, .int rs, .int ac, .ref 43, .ref 44, .ref 45, .ref 46, .ref 47, .ref 48, .ref 49])), (39, .inl (false, 22, (bkF s)))]) _
  refine E_if_ne (tgt := 9) dX7_chain_4 (by decide) (fun _ => ?_) (fun c => (b2i_x1 hx c).elim)
  refine E_aload_n dX7_chain_9 rfl ?_
  refine E_get dX7_chain_10 fX7_7 (by decide) rfl rfl ?_
  refine E_iload_n dX7_chain_13 rfl ?_
  refine E_ialdN (j := h) dX7_chain_14 (by decide) rfl (by omega) (by decide) ?_
  refine E_eqi (y := she s h) (bk_h hh) ?_
  refine E_if_le (tgt := 27) dX7_chain_15 (by decide) (fun _ => ?_) (fun c => absurd (Int32.not_lt.mp ha) c)
  refine E_bipush (v := (-3)) dX7_chain_27 (by decide) ?_
  exact E_iretf dX7_chain_29 rfl rfl rfl rfl

set_option maxHeartbeats 4000000 in
set_option maxRecDepth 20000 in
theorem m_chain_ok (d : Nat) (bu fl fa fw fr rs ac : Int32) (q n : Nat) (s : CS) (hs : OkS s) (h : Nat) (hh : h < 6) (hx : inI (nI h) 0 5 = true) (ha : 0 < she s h) : FC YX7_chain (d + 3) [.ref 38, .int (nI h)] [(38, .inr (7, [.ref 39, .ref 40, .int bu, .int (nI q), .ref 41, .int (nI n), .ref 42, .int fl, .int fa, .int fw, .int fr, .int rs, .int ac, .ref 43, .ref 44, .ref 45, .ref 46, .ref 47, .ref 48, .ref 49])), (39, .inl (false, 22, (bkF s)))] (some (.int (flOut s 0 h 6))) [(38, .inr (7, [.ref 39, .ref 40, .int bu, .int (nI q), .ref 41, .int (nI n), .ref 42, .int fl, .int fa, .int fw, .int fr, .int rs, .int ac, .ref 43, .ref 44, .ref 45, .ref 46, .ref 47, .ref 48, .ref 49])), (39, .inl (false, 22, (bkF s)))] := by
  intro hp
  refine E_iload_n dX7_chain_0 rfl ?_
  refine E_callS (As := [.int (nI h)]) (l' := [.int (nI h)]) (st := []) dX7_chain_1 kX7_52 sX7_isHeap MX7_isHeap rfl rfl (Nat.le_of_ble_eq_true rfl) (FC.use (c_isHM (d + 1) _) rfl (L2 := [(38, .inr (7, [.ref 39, .ref 40, .int bu, .int (nI q), .ref 41, .int (nI n), .ref 42, .int fl, .int fa, .int fw, .int fr, .int rs, .int ac, .ref 43, .ref 44, .ref 45, .ref 46, .ref 47, .ref 48, .ref 49])), (39, .inl (false, 22, (bkF s)))]) rfl) (Nat.le_of_ble_eq_true rfl) (fun _ _ hq9 => E_fgo ?_ hq9)
  show E _ _ 4 [.ref 38, .int (nI h)] [.int (b2i (inI (nI h) 0 5))] (hov hp [(38, .inr (7, [.ref 39, .ref 40, .int bu, .int (nI q), .ref 41, .int (nI n), .ref 42, .int fl, .int fa, .int fw, .int fr, .int rs, .int ac, .ref 43, .ref 44, .ref 45, .ref 46, .ref 47, .ref 48, .ref 49])), (39, .inl (false, 22, (bkF s)))]) _
  refine E_if_ne (tgt := 9) dX7_chain_4 (by decide) (fun _ => ?_) (fun c => (b2i_x1 hx c).elim)
  refine E_aload_n dX7_chain_9 rfl ?_
  refine E_get dX7_chain_10 fX7_7 (by decide) rfl rfl ?_
  refine E_iload_n dX7_chain_13 rfl ?_
  refine E_ialdN (j := h) dX7_chain_14 (by decide) rfl (by omega) (by decide) ?_
  refine E_eqi (y := she s h) (bk_h hh) ?_
  refine E_if_le (tgt := 27) dX7_chain_15 (by decide) (fun c => absurd c (Int32.not_le.mpr ha)) (fun _ => ?_)
  refine E_aload_n dX7_chain_18 rfl ?_
  refine E_iload_n dX7_chain_19 rfl ?_
  refine E_iconst (v := 0) dX7_chain_20 (by decide) ?_
  refine E_callV (As := [.int (nI h), .int 0]) (l' := [.ref 38, .int (nI h), .int 0, .null, .null, .null, .null, .null]) (st := []) dX7_chain_21 kX7_123 iX7_chainOf vX7_chainOf (by decide) rfl rfl MX7_chainOf rfl rfl (Nat.le_of_ble_eq_true rfl) (FC.use (m_chainOf d bu fl fa fw fr rs ac q n s hs h (by omega) 0) rfl (L2 := [(38, .inr (7, [.ref 39, .ref 40, .int bu, .int (nI q), .ref 41, .int (nI n), .ref 42, .int fl, .int fa, .int fw, .int fr, .int rs, .int ac, .ref 43, .ref 44, .ref 45, .ref 46, .ref 47, .ref 48, .ref 49])), (39, .inl (false, 22, (bkF s)))]) rfl) (Nat.le_of_ble_eq_true rfl) (fun _ _ hq9 => E_fgo ?_ hq9)
  show E _ _ 24 [.ref 38, .int (nI h)] [.int (flOut s 0 h 6)] (hov hp [(38, .inr (7, [.ref 39, .ref 40, .int bu, .int (nI q), .ref 41, .int (nI n), .ref 42, .int fl, .int fa, .int fw, .int fr, .int rs, .int ac, .ref 43, .ref 44, .ref 45, .ref 46, .ref 47, .ref 48, .ref 49])), (39, .inl (false, 22, (bkF s)))]) _
  refine E_goto (tgt := 29) dX7_chain_24 (by decide) ?_
  exact E_iretf dX7_chain_29 rfl rfl rfl rfl

theorem bc_k : ∀ k, k < 64 → bcI (nI k) < 7 := by decide
theorem fcB_ok (s : CS) (h g : Nat) : ∀ c, c ≤ 64 → ((fcN s h g c).1 = -6 ∧ (fcN s h g c).2 = 7) ∨ ∃ k, k < 64 ∧ (fcN s h g c).1 = nI k ∧ (fcN s h g c).2 = bcI (nI k)
  | 0, _ => .inl ⟨rfl, rfl⟩
  | c + 1, hc => by
    rw [fcN]
    cases (fcP s h g c && (decide (bcI (nI c) < (fcN s h g c).2) && !hbt (flOut s (nI c) h 6) (nI g))) with
    | true => exact .inr ⟨c, by omega, rfl, rfl⟩
    | false => exact fcB_ok s h g c (by omega)
set_option maxRecDepth 100000 in
theorem fcP_k : ∀ c, c < 64 → ∀ h, h < 6 → ∀ g, g < 6 → decide (nI c &&& ((1 <<< (nI h &&& 31)) ||| (1 <<< (nI g &&& 31))) = 0) = (!hbt (nI c) (nI h) && !hbt (nI c) (nI g)) := by decide +kernel
theorem fcP_h {s : CS} {h g c : Nat} (hc : c < 64) (hh : h < 6) (hg : g < 6) : fcP s h g c = (!hbt (nI c) (nI h) && !hbt (nI c) (nI g)) := fcP_k c hc h hh g hg
theorem fc_neg {s : CS} {h g c : Nat} (hc : c ≤ 64) (hn : (fcN s h g c).1 < 0) : (fcN s h g c).2 = 7 := by
  rcases fcB_ok s h g c hc with ⟨_, e⟩ | ⟨k, hk, e, _⟩
  · exact e
  · rw [e] at hn; exact absurd hn (nI_pos (by omega))
theorem fc_pos {s : CS} {h g c : Nat} (hc : c ≤ 64) (hn : ¬ (fcN s h g c).1 < 0) : bitN (fcN s h g c).1 8 = (fcN s h g c).2 := by
  rcases fcB_ok s h g c hc with ⟨e, _⟩ | ⟨k, hk, e, e2⟩
  · rw [e] at hn; exact absurd (by decide) hn
  · rw [e2, e]; exact bits_bc k (by omega)
theorem fcB_n {s : CS} {h g : Nat} (hn : ¬ fcB s h g = -6) : ¬ fcB s h g < 0 ∧ bitN (fcB s h g) 8 = bcI (fcB s h g) := by
  have h0 := fcB_ok s h g 64 (Nat.le_refl _)
  rcases h0 with ⟨e, _⟩ | ⟨k, hk, e, _⟩
  · exact absurd e hn
  · rw [show fcB s h g = nI k from e]
    exact ⟨nI_pos (by omega), bits_bc k (by omega)⟩

set_option maxHeartbeats 4000000 in
set_option maxRecDepth 20000 in
theorem m_cov_u1 (d : Nat) (bu fl fa fw fr rs ac : Int32) (q n : Nat) (x y v : Int32) (h1 : inI x 0 5 = false) : FC YX7_cover (d + 4) [.ref 38, .int x, .int y, .int v, .null, .null, .null] [(38, .inr (7, [.ref 39, .ref 40, .int bu, .int (nI q), .ref 41, .int (nI n), .ref 42, .int fl, .int fa, .int fw, .int fr, .int rs, .int ac, .ref 43, .ref 44, .ref 45, .ref 46, .ref 47, .ref 48, .ref 49]))] (some (.int (-1))) [(38, .inr (7, [.ref 39, .ref 40, .int bu, .int (nI q), .ref 41, .int (nI n), .ref 42, .int fl, .int fa, .int fw, .int fr, .int rs, .int ac, .ref 43, .ref 44, .ref 45, .ref 46, .ref 47, .ref 48, .ref 49]))] := by
  intro hp
  refine E_iload_n dX7_cover_0 rfl ?_
  refine E_callS (As := [.int x]) (l' := [.int x]) (st := []) dX7_cover_1 kX7_52 sX7_isHeap MX7_isHeap rfl rfl (Nat.le_of_ble_eq_true rfl) (FC.use (c_isHM (d + 2) _) rfl (L2 := [(38, .inr (7, [.ref 39, .ref 40, .int bu, .int (nI q), .ref 41, .int (nI n), .ref 42, .int fl, .int fa, .int fw, .int fr, .int rs, .int ac, .ref 43, .ref 44, .ref 45, .ref 46, .ref 47, .ref 48, .ref 49]))]) rfl) (Nat.le_of_ble_eq_true rfl) (fun _ _ hq9 => E_fgo ?_ hq9)
  show E _ _ 4 [.ref 38, .int x, .int y, .int v, .null, .null, .null] [.int (b2i (inI x 0 5))] (hov hp [(38, .inr (7, [.ref 39, .ref 40, .int bu, .int (nI q), .ref 41, .int (nI n), .ref 42, .int fl, .int fa, .int fw, .int fr, .int rs, .int ac, .ref 43, .ref 44, .ref 45, .ref 46, .ref 47, .ref 48, .ref 49]))]) _
  refine E_if_eq (tgt := 19) dX7_cover_4 (by decide) (fun _ => ?_) (fun c => (b2i_x0 h1 c).elim)
  refine E_iconst (v := (-1)) dX7_cover_19 (by decide) ?_
  exact E_iretf dX7_cover_20 rfl rfl rfl rfl

set_option maxHeartbeats 4000000 in
set_option maxRecDepth 20000 in
theorem m_cov_u2 (d : Nat) (bu fl fa fw fr rs ac : Int32) (q n : Nat) (x y v : Int32) (h1 : inI x 0 5 = true) (h2 : inI y 0 5 = false) : FC YX7_cover (d + 4) [.ref 38, .int x, .int y, .int v, .null, .null, .null] [(38, .inr (7, [.ref 39, .ref 40, .int bu, .int (nI q), .ref 41, .int (nI n), .ref 42, .int fl, .int fa, .int fw, .int fr, .int rs, .int ac, .ref 43, .ref 44, .ref 45, .ref 46, .ref 47, .ref 48, .ref 49]))] (some (.int (-1))) [(38, .inr (7, [.ref 39, .ref 40, .int bu, .int (nI q), .ref 41, .int (nI n), .ref 42, .int fl, .int fa, .int fw, .int fr, .int rs, .int ac, .ref 43, .ref 44, .ref 45, .ref 46, .ref 47, .ref 48, .ref 49]))] := by
  intro hp
  refine E_iload_n dX7_cover_0 rfl ?_
  refine E_callS (As := [.int x]) (l' := [.int x]) (st := []) dX7_cover_1 kX7_52 sX7_isHeap MX7_isHeap rfl rfl (Nat.le_of_ble_eq_true rfl) (FC.use (c_isHM (d + 2) _) rfl (L2 := [(38, .inr (7, [.ref 39, .ref 40, .int bu, .int (nI q), .ref 41, .int (nI n), .ref 42, .int fl, .int fa, .int fw, .int fr, .int rs, .int ac, .ref 43, .ref 44, .ref 45, .ref 46, .ref 47, .ref 48, .ref 49]))]) rfl) (Nat.le_of_ble_eq_true rfl) (fun _ _ hq9 => E_fgo ?_ hq9)
  show E _ _ 4 [.ref 38, .int x, .int y, .int v, .null, .null, .null] [.int (b2i (inI x 0 5))] (hov hp [(38, .inr (7, [.ref 39, .ref 40, .int bu, .int (nI q), .ref 41, .int (nI n), .ref 42, .int fl, .int fa, .int fw, .int fr, .int rs, .int ac, .ref 43, .ref 44, .ref 45, .ref 46, .ref 47, .ref 48, .ref 49]))]) _
  refine E_if_eq (tgt := 19) dX7_cover_4 (by decide) (fun c => (b2i_x1 h1 c).elim) (fun _ => ?_)
  refine E_iload_n dX7_cover_7 rfl ?_
  refine E_callS (As := [.int y]) (l' := [.int y]) (st := []) dX7_cover_8 kX7_52 sX7_isHeap MX7_isHeap rfl rfl (Nat.le_of_ble_eq_true rfl) (FC.use (c_isHM (d + 2) _) rfl (L2 := [(38, .inr (7, [.ref 39, .ref 40, .int bu, .int (nI q), .ref 41, .int (nI n), .ref 42, .int fl, .int fa, .int fw, .int fr, .int rs, .int ac, .ref 43, .ref 44, .ref 45, .ref 46, .ref 47, .ref 48, .ref 49]))]) rfl) (Nat.le_of_ble_eq_true rfl) (fun _ _ hq9 => E_fgo ?_ hq9)
  show E _ _ 11 [.ref 38, .int x, .int y, .int v, .null, .null, .null] [.int (b2i (inI y 0 5))] (hov hp [(38, .inr (7, [.ref 39, .ref 40, .int bu, .int (nI q), .ref 41, .int (nI n), .ref 42, .int fl, .int fa, .int fw, .int fr, .int rs, .int ac, .ref 43, .ref 44, .ref 45, .ref 46, .ref 47, .ref 48, .ref 49]))]) _
  refine E_if_eq (tgt := 19) dX7_cover_11 (by decide) (fun _ => ?_) (fun c => (b2i_x0 h2 c).elim)
  refine E_iconst (v := (-1)) dX7_cover_19 (by decide) ?_
  exact E_iretf dX7_cover_20 rfl rfl rfl rfl

set_option maxHeartbeats 4000000 in
set_option maxRecDepth 20000 in
theorem m_cov_u3 (d : Nat) (bu fl fa fw fr rs ac : Int32) (q n : Nat) (x v : Int32) (h1 : inI x 0 5 = true) : FC YX7_cover (d + 4) [.ref 38, .int x, .int x, .int v, .null, .null, .null] [(38, .inr (7, [.ref 39, .ref 40, .int bu, .int (nI q), .ref 41, .int (nI n), .ref 42, .int fl, .int fa, .int fw, .int fr, .int rs, .int ac, .ref 43, .ref 44, .ref 45, .ref 46, .ref 47, .ref 48, .ref 49]))] (some (.int (-1))) [(38, .inr (7, [.ref 39, .ref 40, .int bu, .int (nI q), .ref 41, .int (nI n), .ref 42, .int fl, .int fa, .int fw, .int fr, .int rs, .int ac, .ref 43, .ref 44, .ref 45, .ref 46, .ref 47, .ref 48, .ref 49]))] := by
  intro hp
  refine E_iload_n dX7_cover_0 rfl ?_
  refine E_callS (As := [.int x]) (l' := [.int x]) (st := []) dX7_cover_1 kX7_52 sX7_isHeap MX7_isHeap rfl rfl (Nat.le_of_ble_eq_true rfl) (FC.use (c_isHM (d + 2) _) rfl (L2 := [(38, .inr (7, [.ref 39, .ref 40, .int bu, .int (nI q), .ref 41, .int (nI n), .ref 42, .int fl, .int fa, .int fw, .int fr, .int rs, .int ac, .ref 43, .ref 44, .ref 45, .ref 46, .ref 47, .ref 48, .ref 49]))]) rfl) (Nat.le_of_ble_eq_true rfl) (fun _ _ hq9 => E_fgo ?_ hq9)
  show E _ _ 4 [.ref 38, .int x, .int x, .int v, .null, .null, .null] [.int (b2i (inI x 0 5))] (hov hp [(38, .inr (7, [.ref 39, .ref 40, .int bu, .int (nI q), .ref 41, .int (nI n), .ref 42, .int fl, .int fa, .int fw, .int fr, .int rs, .int ac, .ref 43, .ref 44, .ref 45, .ref 46, .ref 47, .ref 48, .ref 49]))]) _
  refine E_if_eq (tgt := 19) dX7_cover_4 (by decide) (fun c => (b2i_x1 h1 c).elim) (fun _ => ?_)
  refine E_iload_n dX7_cover_7 rfl ?_
  refine E_callS (As := [.int x]) (l' := [.int x]) (st := []) dX7_cover_8 kX7_52 sX7_isHeap MX7_isHeap rfl rfl (Nat.le_of_ble_eq_true rfl) (FC.use (c_isHM (d + 2) _) rfl (L2 := [(38, .inr (7, [.ref 39, .ref 40, .int bu, .int (nI q), .ref 41, .int (nI n), .ref 42, .int fl, .int fa, .int fw, .int fr, .int rs, .int ac, .ref 43, .ref 44, .ref 45, .ref 46, .ref 47, .ref 48, .ref 49]))]) rfl) (Nat.le_of_ble_eq_true rfl) (fun _ _ hq9 => E_fgo ?_ hq9)
  show E _ _ 11 [.ref 38, .int x, .int x, .int v, .null, .null, .null] [.int (b2i (inI x 0 5))] (hov hp [(38, .inr (7, [.ref 39, .ref 40, .int bu, .int (nI q), .ref 41, .int (nI n), .ref 42, .int fl, .int fa, .int fw, .int fr, .int rs, .int ac, .ref 43, .ref 44, .ref 45, .ref 46, .ref 47, .ref 48, .ref 49]))]) _
  refine E_if_eq (tgt := 19) dX7_cover_11 (by decide) (fun c => (b2i_x1 h1 c).elim) (fun _ => ?_)
  refine E_iload_n dX7_cover_14 rfl ?_
  refine E_iload_n dX7_cover_15 rfl ?_
  refine E_icmp_ne (tgt := 21) dX7_cover_16 (by decide) (fun c => absurd rfl c) (fun _ => ?_)
  refine E_iconst (v := (-1)) dX7_cover_19 (by decide) ?_
  exact E_iretf dX7_cover_20 rfl rfl rfl rfl

set_option maxHeartbeats 4000000 in
set_option maxRecDepth 20000 in
theorem m_cov_out (d : Nat) (bu fl fa fw fr rs ac : Int32) (q n : Nat) (s : CS) (hs : OkS s) (h g : Nat) (hh : h < 6) (hg : g < 6) (hne : ¬ nI h = nI g) (h1 : inI (nI h) 0 5 = true) (h2 : inI (nI g) 0 5 = true) (v : Int32) (hv : inI v 0 1 = false) : FC YX7_cover (d + 4) [.ref 38, .int (nI h), .int (nI g), .int v, .null, .null, .null] [(38, .inr (7, [.ref 39, .ref 40, .int bu, .int (nI q), .ref 41, .int (nI n), .ref 42, .int fl, .int fa, .int fw, .int fr, .int rs, .int ac, .ref 43, .ref 44, .ref 45, .ref 46, .ref 47, .ref 48, .ref 49])), (39, .inl (false, 22, (bkF s)))] (some (.int (-2))) [(38, .inr (7, [.ref 39, .ref 40, .int bu, .int (nI q), .ref 41, .int (nI n), .ref 42, .int fl, .int fa, .int fw, .int fr, .int rs, .int ac, .ref 43, .ref 44, .ref 45, .ref 46, .ref 47, .ref 48, .ref 49])), (39, .inl (false, 22, (bkF s)))] := by
  intro hp
  refine E_iload_n dX7_cover_0 rfl ?_
  refine E_callS (As := [.int (nI h)]) (l' := [.int (nI h)]) (st := []) dX7_cover_1 kX7_52 sX7_isHeap MX7_isHeap rfl rfl (Nat.le_of_ble_eq_true rfl) (FC.use (c_isHM (d + 2) _) rfl (L2 := [(38, .inr (7, [.ref 39, .ref 40, .int bu, .int (nI q), .ref 41, .int (nI n), .ref 42, .int fl, .int fa, .int fw, .int fr, .int rs, .int ac, .ref 43, .ref 44, .ref 45, .ref 46, .ref 47, .ref 48, .ref 49])), (39, .inl (false, 22, (bkF s)))]) rfl) (Nat.le_of_ble_eq_true rfl) (fun _ _ hq9 => E_fgo ?_ hq9)
  show E _ _ 4 [.ref 38, .int (nI h), .int (nI g), .int v, .null, .null, .null] [.int (b2i (inI (nI h) 0 5))] (hov hp [(38, .inr (7, [.ref 39, .ref 40, .int bu, .int (nI q), .ref 41, .int (nI n), .ref 42, .int fl, .int fa, .int fw, .int fr, .int rs, .int ac, .ref 43, .ref 44, .ref 45, .ref 46, .ref 47, .ref 48, .ref 49])), (39, .inl (false, 22, (bkF s)))]) _
  refine E_if_eq (tgt := 19) dX7_cover_4 (by decide) (fun c => (b2i_x1 h1 c).elim) (fun _ => ?_)
  refine E_iload_n dX7_cover_7 rfl ?_
  refine E_callS (As := [.int (nI g)]) (l' := [.int (nI g)]) (st := []) dX7_cover_8 kX7_52 sX7_isHeap MX7_isHeap rfl rfl (Nat.le_of_ble_eq_true rfl) (FC.use (c_isHM (d + 2) _) rfl (L2 := [(38, .inr (7, [.ref 39, .ref 40, .int bu, .int (nI q), .ref 41, .int (nI n), .ref 42, .int fl, .int fa, .int fw, .int fr, .int rs, .int ac, .ref 43, .ref 44, .ref 45, .ref 46, .ref 47, .ref 48, .ref 49])), (39, .inl (false, 22, (bkF s)))]) rfl) (Nat.le_of_ble_eq_true rfl) (fun _ _ hq9 => E_fgo ?_ hq9)
  show E _ _ 11 [.ref 38, .int (nI h), .int (nI g), .int v, .null, .null, .null] [.int (b2i (inI (nI g) 0 5))] (hov hp [(38, .inr (7, [.ref 39, .ref 40, .int bu, .int (nI q), .ref 41, .int (nI n), .ref 42, .int fl, .int fa, .int fw, .int fr, .int rs, .int ac, .ref 43, .ref 44, .ref 45, .ref 46, .ref 47, .ref 48, .ref 49])), (39, .inl (false, 22, (bkF s)))]) _
  refine E_if_eq (tgt := 19) dX7_cover_11 (by decide) (fun c => (b2i_x1 h2 c).elim) (fun _ => ?_)
  refine E_iload_n dX7_cover_14 rfl ?_
  refine E_iload_n dX7_cover_15 rfl ?_
  refine E_icmp_ne (tgt := 21) dX7_cover_16 (by decide) (fun _ => ?_) (fun c => absurd c hne)
  refine E_iload_n dX7_cover_21 rfl ?_
  refine E_iconst (v := 0) dX7_cover_22 (by decide) ?_
  refine E_iconst (v := 1) dX7_cover_23 (by decide) ?_
  refine E_callS (As := [.int v, .int 0, .int 1]) (l' := [.int v, .int 0, .int 1]) (st := []) dX7_cover_24 kX7_48 sX7_in MX7_in rfl rfl (Nat.le_of_ble_eq_true rfl) (FC.use (c_in (d + 3) _ _ _) rfl (L2 := [(38, .inr (7, [.ref 39, .ref 40, .int bu, .int (nI q), .ref 41, .int (nI n), .ref 42, .int fl, .int fa, .int fw, .int fr, .int rs, .int ac, .ref 43, .ref 44, .ref 45, .ref 46, .ref 47, .ref 48, .ref 49])), (39, .inl (false, 22, (bkF s)))]) rfl) (Nat.le_of_ble_eq_true rfl) (fun _ _ hq9 => E_fgo ?_ hq9)
  show E _ _ 27 [.ref 38, .int (nI h), .int (nI g), .int v, .null, .null, .null] [.int (b2i (inI v 0 1))] (hov hp [(38, .inr (7, [.ref 39, .ref 40, .int bu, .int (nI q), .ref 41, .int (nI n), .ref 42, .int fl, .int fa, .int fw, .int fr, .int rs, .int ac, .ref 43, .ref 44, .ref 45, .ref 46, .ref 47, .ref 48, .ref 49])), (39, .inl (false, 22, (bkF s)))]) _
  refine E_if_ne (tgt := 33) dX7_cover_27 (by decide) (fun c => (b2i_x0 hv c).elim) (fun _ => ?_)
  refine E_bipush (v := (-2)) dX7_cover_30 (by decide) ?_
  exact E_iretf dX7_cover_32 rfl rfl rfl rfl

set_option maxHeartbeats 4000000 in
set_option maxRecDepth 20000 in
theorem m_cov_s1 (d : Nat) (bu fl fa fw fr rs ac : Int32) (q n : Nat) (s : CS) (hs : OkS s) (h g : Nat) (hh : h < 6) (hg : g < 6) (hne : ¬ nI h = nI g) (h1 : inI (nI h) 0 5 = true) (h2 : inI (nI g) 0 5 = true) (v : Int32) (hv : inI v 0 1 = true) (ha : she s h = 0) : FC YX7_cover (d + 4) [.ref 38, .int (nI h), .int (nI g), .int v, .null, .null, .null] [(38, .inr (7, [.ref 39, .ref 40, .int bu, .int (nI q), .ref 41, .int (nI n), .ref 42, .int fl, .int fa, .int fw, .int fr, .int rs, .int ac, .ref 43, .ref 44, .ref 45, .ref 46, .ref 47, .ref 48, .ref 49])), (39, .inl (false, 22, (bkF s)))] (some (.int (-3))) [(38, .inr (7, [.ref 39, .ref 40, .int bu, .int (nI q), .ref 41, .int (nI n), .ref 42, .int fl, .int fa, .int fw, .int fr, .int rs, .int ac, .ref 43, .ref 44, .ref 45, .ref 46, .ref 47, .ref 48, .ref 49])), (39, .inl (false, 22, (bkF s)))] := by
  intro hp
  refine E_iload_n dX7_cover_0 rfl ?_
  refine E_callS (As := [.int (nI h)]) (l' := [.int (nI h)]) (st := []) dX7_cover_1 kX7_52 sX7_isHeap MX7_isHeap rfl rfl (Nat.le_of_ble_eq_true rfl) (FC.use (c_isHM (d + 2) _) rfl (L2 := [(38, .inr (7, [.ref 39, .ref 40, .int bu, .int (nI q), .ref 41, .int (nI n), .ref 42, .int fl, .int fa, .int fw, .int fr, .int rs, .int ac, .ref 43, .ref 44, .ref 45, .ref 46, .ref 47, .ref 48, .ref 49])), (39, .inl (false, 22, (bkF s)))]) rfl) (Nat.le_of_ble_eq_true rfl) (fun _ _ hq9 => E_fgo ?_ hq9)
  show E _ _ 4 [.ref 38, .int (nI h), .int (nI g), .int v, .null, .null, .null] [.int (b2i (inI (nI h) 0 5))] (hov hp [(38, .inr (7, [.ref 39, .ref 40, .int bu, .int (nI q), .ref 41, .int (nI n), .ref 42, .int fl, .int fa, .int fw, .int fr, .int rs, .int ac, .ref 43, .ref 44, .ref 45, .ref 46, .ref 47, .ref 48, .ref 49])), (39, .inl (false, 22, (bkF s)))]) _
  refine E_if_eq (tgt := 19) dX7_cover_4 (by decide) (fun c => (b2i_x1 h1 c).elim) (fun _ => ?_)
  refine E_iload_n dX7_cover_7 rfl ?_
  refine E_callS (As := [.int (nI g)]) (l' := [.int (nI g)]) (st := []) dX7_cover_8 kX7_52 sX7_isHeap MX7_isHeap rfl rfl (Nat.le_of_ble_eq_true rfl) (FC.use (c_isHM (d + 2) _) rfl (L2 := [(38, .inr (7, [.ref 39, .ref 40, .int bu, .int (nI q), .ref 41, .int (nI n), .ref 42, .int fl, .int fa, .int fw, .int fr, .int rs, .int ac, .ref 43, .ref 44, .ref 45, .ref 46, .ref 47, .ref 48, .ref 49])), (39, .inl (false, 22, (bkF s)))]) rfl) (Nat.le_of_ble_eq_true rfl) (fun _ _ hq9 => E_fgo ?_ hq9)
  show E _ _ 11 [.ref 38, .int (nI h), .int (nI g), .int v, .null, .null, .null] [.int (b2i (inI (nI g) 0 5))] (hov hp [(38, .inr (7, [.ref 39, .ref 40, .int bu, .int (nI q), .ref 41, .int (nI n), .ref 42, .int fl, .int fa, .int fw, .int fr, .int rs, .int ac, .ref 43, .ref 44, .ref 45, .ref 46, .ref 47, .ref 48, .ref 49])), (39, .inl (false, 22, (bkF s)))]) _
  refine E_if_eq (tgt := 19) dX7_cover_11 (by decide) (fun c => (b2i_x1 h2 c).elim) (fun _ => ?_)
  refine E_iload_n dX7_cover_14 rfl ?_
  refine E_iload_n dX7_cover_15 rfl ?_
  refine E_icmp_ne (tgt := 21) dX7_cover_16 (by decide) (fun _ => ?_) (fun c => absurd c hne)
  refine E_iload_n dX7_cover_21 rfl ?_
  refine E_iconst (v := 0) dX7_cover_22 (by decide) ?_
  refine E_iconst (v := 1) dX7_cover_23 (by decide) ?_
  refine E_callS (As := [.int v, .int 0, .int 1]) (l' := [.int v, .int 0, .int 1]) (st := []) dX7_cover_24 kX7_48 sX7_in MX7_in rfl rfl (Nat.le_of_ble_eq_true rfl) (FC.use (c_in (d + 3) _ _ _) rfl (L2 := [(38, .inr (7, [.ref 39, .ref 40, .int bu, .int (nI q), .ref 41, .int (nI n), .ref 42, .int fl, .int fa, .int fw, .int fr, .int rs, .int ac, .ref 43, .ref 44, .ref 45, .ref 46, .ref 47, .ref 48, .ref 49])), (39, .inl (false, 22, (bkF s)))]) rfl) (Nat.le_of_ble_eq_true rfl) (fun _ _ hq9 => E_fgo ?_ hq9)
  show E _ _ 27 [.ref 38, .int (nI h), .int (nI g), .int v, .null, .null, .null] [.int (b2i (inI v 0 1))] (hov hp [(38, .inr (7, [.ref 39, .ref 40, .int bu, .int (nI q), .ref 41, .int (nI n), .ref 42, .int fl, .int fa, .int fw, .int fr, .int rs, .int ac, .ref 43, .ref 44, .ref 45, .ref 46, .ref 47, .ref 48, .ref 49])), (39, .inl (false, 22, (bkF s)))]) _
  refine E_if_ne (tgt := 33) dX7_cover_27 (by decide) (fun _ => ?_) (fun c => (b2i_x1 hv c).elim)
  refine E_aload_n dX7_cover_33 rfl ?_
  refine E_get dX7_cover_34 fX7_7 (by decide) rfl rfl ?_
  refine E_iload_n dX7_cover_37 rfl ?_
  refine E_ialdN (j := h) dX7_cover_38 (by decide) rfl (by omega) (by decide) ?_
  refine E_eqi (y := she s h) (bk_h hh) ?_
  refine E_if_eq (tgt := 51) dX7_cover_39 (by decide) (fun _ => ?_) (fun c => absurd ha c)
  refine E_bipush (v := (-3)) dX7_cover_51 (by decide) ?_
  exact E_iretf dX7_cover_53 rfl rfl rfl rfl

set_option maxHeartbeats 4000000 in
set_option maxRecDepth 20000 in
theorem m_cov_s2 (d : Nat) (bu fl fa fw fr rs ac : Int32) (q n : Nat) (s : CS) (hs : OkS s) (h g : Nat) (hh : h < 6) (hg : g < 6) (hne : ¬ nI h = nI g) (h1 : inI (nI h) 0 5 = true) (h2 : inI (nI g) 0 5 = true) (v : Int32) (hv : inI v 0 1 = true) (ha : ¬ she s h = 0) (hb : she s g = 0) : FC YX7_cover (d + 4) [.ref 38, .int (nI h), .int (nI g), .int v, .null, .null, .null] [(38, .inr (7, [.ref 39, .ref 40, .int bu, .int (nI q), .ref 41, .int (nI n), .ref 42, .int fl, .int fa, .int fw, .int fr, .int rs, .int ac, .ref 43, .ref 44, .ref 45, .ref 46, .ref 47, .ref 48, .ref 49])), (39, .inl (false, 22, (bkF s)))] (some (.int (-3))) [(38, .inr (7, [.ref 39, .ref 40, .int bu, .int (nI q), .ref 41, .int (nI n), .ref 42, .int fl, .int fa, .int fw, .int fr, .int rs, .int ac, .ref 43, .ref 44, .ref 45, .ref 46, .ref 47, .ref 48, .ref 49])), (39, .inl (false, 22, (bkF s)))] := by
  intro hp
  refine E_iload_n dX7_cover_0 rfl ?_
  refine E_callS (As := [.int (nI h)]) (l' := [.int (nI h)]) (st := []) dX7_cover_1 kX7_52 sX7_isHeap MX7_isHeap rfl rfl (Nat.le_of_ble_eq_true rfl) (FC.use (c_isHM (d + 2) _) rfl (L2 := [(38, .inr (7, [.ref 39, .ref 40, .int bu, .int (nI q), .ref 41, .int (nI n), .ref 42, .int fl, .int fa, .int fw, .int fr, .int rs, .int ac, .ref 43, .ref 44, .ref 45, .ref 46, .ref 47, .ref 48, .ref 49])), (39, .inl (false, 22, (bkF s)))]) rfl) (Nat.le_of_ble_eq_true rfl) (fun _ _ hq9 => E_fgo ?_ hq9)
  show E _ _ 4 [.ref 38, .int (nI h), .int (nI g), .int v, .null, .null, .null] [.int (b2i (inI (nI h) 0 5))] (hov hp [(38, .inr (7, [.ref 39, .ref 40, .int bu, .int (nI q), .ref 41, .int (nI n), .ref 42, .int fl, .int fa, .int fw, .int fr, .int rs, .int ac, .ref 43, .ref 44, .ref 45, .ref 46, .ref 47, .ref 48, .ref 49])), (39, .inl (false, 22, (bkF s)))]) _
  refine E_if_eq (tgt := 19) dX7_cover_4 (by decide) (fun c => (b2i_x1 h1 c).elim) (fun _ => ?_)
  refine E_iload_n dX7_cover_7 rfl ?_
  refine E_callS (As := [.int (nI g)]) (l' := [.int (nI g)]) (st := []) dX7_cover_8 kX7_52 sX7_isHeap MX7_isHeap rfl rfl (Nat.le_of_ble_eq_true rfl) (FC.use (c_isHM (d + 2) _) rfl (L2 := [(38, .inr (7, [.ref 39, .ref 40, .int bu, .int (nI q), .ref 41, .int (nI n), .ref 42, .int fl, .int fa, .int fw, .int fr, .int rs, .int ac, .ref 43, .ref 44, .ref 45, .ref 46, .ref 47, .ref 48, .ref 49])), (39, .inl (false, 22, (bkF s)))]) rfl) (Nat.le_of_ble_eq_true rfl) (fun _ _ hq9 => E_fgo ?_ hq9)
  show E _ _ 11 [.ref 38, .int (nI h), .int (nI g), .int v, .null, .null, .null] [.int (b2i (inI (nI g) 0 5))] (hov hp [(38, .inr (7, [.ref 39, .ref 40, .int bu, .int (nI q), .ref 41, .int (nI n), .ref 42, .int fl, .int fa, .int fw, .int fr, .int rs, .int ac, .ref 43, .ref 44, .ref 45, .ref 46, .ref 47, .ref 48, .ref 49])), (39, .inl (false, 22, (bkF s)))]) _
  refine E_if_eq (tgt := 19) dX7_cover_11 (by decide) (fun c => (b2i_x1 h2 c).elim) (fun _ => ?_)
  refine E_iload_n dX7_cover_14 rfl ?_
  refine E_iload_n dX7_cover_15 rfl ?_
  refine E_icmp_ne (tgt := 21) dX7_cover_16 (by decide) (fun _ => ?_) (fun c => absurd c hne)
  refine E_iload_n dX7_cover_21 rfl ?_
  refine E_iconst (v := 0) dX7_cover_22 (by decide) ?_
  refine E_iconst (v := 1) dX7_cover_23 (by decide) ?_
  refine E_callS (As := [.int v, .int 0, .int 1]) (l' := [.int v, .int 0, .int 1]) (st := []) dX7_cover_24 kX7_48 sX7_in MX7_in rfl rfl (Nat.le_of_ble_eq_true rfl) (FC.use (c_in (d + 3) _ _ _) rfl (L2 := [(38, .inr (7, [.ref 39, .ref 40, .int bu, .int (nI q), .ref 41, .int (nI n), .ref 42, .int fl, .int fa, .int fw, .int fr, .int rs, .int ac, .ref 43, .ref 44, .ref 45, .ref 46, .ref 47, .ref 48, .ref 49])), (39, .inl (false, 22, (bkF s)))]) rfl) (Nat.le_of_ble_eq_true rfl) (fun _ _ hq9 => E_fgo ?_ hq9)
  show E _ _ 27 [.ref 38, .int (nI h), .int (nI g), .int v, .null, .null, .null] [.int (b2i (inI v 0 1))] (hov hp [(38, .inr (7, [.ref 39, .ref 40, .int bu, .int (nI q), .ref 41, .int (nI n), .ref 42, .int fl, .int fa, .int fw, .int fr, .int rs, .int ac, .ref 43, .ref 44, .ref 45, .ref 46, .ref 47, .ref 48, .ref 49])), (39, .inl (false, 22, (bkF s)))]) _
  refine E_if_ne (tgt := 33) dX7_cover_27 (by decide) (fun _ => ?_) (fun c => (b2i_x1 hv c).elim)
  refine E_aload_n dX7_cover_33 rfl ?_
  refine E_get dX7_cover_34 fX7_7 (by decide) rfl rfl ?_
  refine E_iload_n dX7_cover_37 rfl ?_
  refine E_ialdN (j := h) dX7_cover_38 (by decide) rfl (by omega) (by decide) ?_
  refine E_eqi (y := she s h) (bk_h hh) ?_
  refine E_if_eq (tgt := 51) dX7_cover_39 (by decide) (fun c => absurd c ha) (fun _ => ?_)
  refine E_aload_n dX7_cover_42 rfl ?_
  refine E_get dX7_cover_43 fX7_7 (by decide) rfl rfl ?_
  refine E_iload_n dX7_cover_46 rfl ?_
  refine E_ialdN (j := g) dX7_cover_47 (by decide) rfl (by omega) (by decide) ?_
  refine E_eqi (y := she s g) (bk_h hg) ?_
  refine E_if_ne (tgt := 54) dX7_cover_48 (by decide) (fun c => absurd hb c) (fun _ => ?_)
  refine E_bipush (v := (-3)) dX7_cover_51 (by decide) ?_
  exact E_iretf dX7_cover_53 rfl rfl rfl rfl

set_option maxHeartbeats 4000000 in
set_option maxRecDepth 20000 in
theorem m_cov_none (d : Nat) (bu fl fa fw fr rs ac : Int32) (q n : Nat) (s : CS) (hs : OkS s) (h g : Nat) (hh : h < 6) (hg : g < 6) (hne : ¬ nI h = nI g) (h1 : inI (nI h) 0 5 = true) (h2 : inI (nI g) 0 5 = true) (v : Int32) (hv : inI v 0 1 = true) (ha : ¬ she s h = 0) (hb : ¬ she s g = 0) (hn : fcB s h g = -6) : FC YX7_cover (d + 4) [.ref 38, .int (nI h), .int (nI g), .int v, .null, .null, .null] [(38, .inr (7, [.ref 39, .ref 40, .int bu, .int (nI q), .ref 41, .int (nI n), .ref 42, .int fl, .int fa, .int fw, .int fr, .int rs, .int ac, .ref 43, .ref 44, .ref 45, .ref 46, .ref 47, .ref 48, .ref 49])), (39, .inl (false, 22, (bkF s)))] (some (.int (-6))) [(38, .inr (7, [.ref 39, .ref 40, .int bu, .int (nI q), .ref 41, .int (nI n), .ref 42, .int fl, .int fa, .int fw, .int fr, .int rs, .int ac, .ref 43, .ref 44, .ref 45, .ref 46, .ref 47, .ref 48, .ref 49])), (39, .inl (false, 22, (bkF s)))] := by
  intro hp
  refine E_iload_n dX7_cover_0 rfl ?_
  refine E_callS (As := [.int (nI h)]) (l' := [.int (nI h)]) (st := []) dX7_cover_1 kX7_52 sX7_isHeap MX7_isHeap rfl rfl (Nat.le_of_ble_eq_true rfl) (FC.use (c_isHM (d + 2) _) rfl (L2 := [(38, .inr (7, [.ref 39, .ref 40, .int bu, .int (nI q), .ref 41, .int (nI n), .ref 42, .int fl, .int fa, .int fw, .int fr, .int rs, .int ac, .ref 43, .ref 44, .ref 45, .ref 46, .ref 47, .ref 48, .ref 49])), (39, .inl (false, 22, (bkF s)))]) rfl) (Nat.le_of_ble_eq_true rfl) (fun _ _ hq9 => E_fgo ?_ hq9)
  show E _ _ 4 [.ref 38, .int (nI h), .int (nI g), .int v, .null, .null, .null] [.int (b2i (inI (nI h) 0 5))] (hov hp [(38, .inr (7, [.ref 39, .ref 40, .int bu, .int (nI q), .ref 41, .int (nI n), .ref 42, .int fl, .int fa, .int fw, .int fr, .int rs, .int ac, .ref 43, .ref 44, .ref 45, .ref 46, .ref 47, .ref 48, .ref 49])), (39, .inl (false, 22, (bkF s)))]) _
  refine E_if_eq (tgt := 19) dX7_cover_4 (by decide) (fun c => (b2i_x1 h1 c).elim) (fun _ => ?_)
  refine E_iload_n dX7_cover_7 rfl ?_
  refine E_callS (As := [.int (nI g)]) (l' := [.int (nI g)]) (st := []) dX7_cover_8 kX7_52 sX7_isHeap MX7_isHeap rfl rfl (Nat.le_of_ble_eq_true rfl) (FC.use (c_isHM (d + 2) _) rfl (L2 := [(38, .inr (7, [.ref 39, .ref 40, .int bu, .int (nI q), .ref 41, .int (nI n), .ref 42, .int fl, .int fa, .int fw, .int fr, .int rs, .int ac, .ref 43, .ref 44, .ref 45, .ref 46, .ref 47, .ref 48, .ref 49])), (39, .inl (false, 22, (bkF s)))]) rfl) (Nat.le_of_ble_eq_true rfl) (fun _ _ hq9 => E_fgo ?_ hq9)
  show E _ _ 11 [.ref 38, .int (nI h), .int (nI g), .int v, .null, .null, .null] [.int (b2i (inI (nI g) 0 5))] (hov hp [(38, .inr (7, [.ref 39, .ref 40, .int bu, .int (nI q), .ref 41, .int (nI n), .ref 42, .int fl, .int fa, .int fw, .int fr, .int rs, .int ac, .ref 43, .ref 44, .ref 45, .ref 46, .ref 47, .ref 48, .ref 49])), (39, .inl (false, 22, (bkF s)))]) _
  refine E_if_eq (tgt := 19) dX7_cover_11 (by decide) (fun c => (b2i_x1 h2 c).elim) (fun _ => ?_)
  refine E_iload_n dX7_cover_14 rfl ?_
  refine E_iload_n dX7_cover_15 rfl ?_
  refine E_icmp_ne (tgt := 21) dX7_cover_16 (by decide) (fun _ => ?_) (fun c => absurd c hne)
  refine E_iload_n dX7_cover_21 rfl ?_
  refine E_iconst (v := 0) dX7_cover_22 (by decide) ?_
  refine E_iconst (v := 1) dX7_cover_23 (by decide) ?_
  refine E_callS (As := [.int v, .int 0, .int 1]) (l' := [.int v, .int 0, .int 1]) (st := []) dX7_cover_24 kX7_48 sX7_in MX7_in rfl rfl (Nat.le_of_ble_eq_true rfl) (FC.use (c_in (d + 3) _ _ _) rfl (L2 := [(38, .inr (7, [.ref 39, .ref 40, .int bu, .int (nI q), .ref 41, .int (nI n), .ref 42, .int fl, .int fa, .int fw, .int fr, .int rs, .int ac, .ref 43, .ref 44, .ref 45, .ref 46, .ref 47, .ref 48, .ref 49])), (39, .inl (false, 22, (bkF s)))]) rfl) (Nat.le_of_ble_eq_true rfl) (fun _ _ hq9 => E_fgo ?_ hq9)
  show E _ _ 27 [.ref 38, .int (nI h), .int (nI g), .int v, .null, .null, .null] [.int (b2i (inI v 0 1))] (hov hp [(38, .inr (7, [.ref 39, .ref 40, .int bu, .int (nI q), .ref 41, .int (nI n), .ref 42, .int fl, .int fa, .int fw, .int fr, .int rs, .int ac, .ref 43, .ref 44, .ref 45, .ref 46, .ref 47, .ref 48, .ref 49])), (39, .inl (false, 22, (bkF s)))]) _
  refine E_if_ne (tgt := 33) dX7_cover_27 (by decide) (fun _ => ?_) (fun c => (b2i_x1 hv c).elim)
  refine E_aload_n dX7_cover_33 rfl ?_
  refine E_get dX7_cover_34 fX7_7 (by decide) rfl rfl ?_
  refine E_iload_n dX7_cover_37 rfl ?_
  refine E_ialdN (j := h) dX7_cover_38 (by decide) rfl (by omega) (by decide) ?_
  refine E_eqi (y := she s h) (bk_h hh) ?_
  refine E_if_eq (tgt := 51) dX7_cover_39 (by decide) (fun c => absurd c ha) (fun _ => ?_)
  refine E_aload_n dX7_cover_42 rfl ?_
  refine E_get dX7_cover_43 fX7_7 (by decide) rfl rfl ?_
  refine E_iload_n dX7_cover_46 rfl ?_
  refine E_ialdN (j := g) dX7_cover_47 (by decide) rfl (by omega) (by decide) ?_
  refine E_eqi (y := she s g) (bk_h hg) ?_
  refine E_if_ne (tgt := 54) dX7_cover_48 (by decide) (fun _ => ?_) (fun c => absurd c hb)
  refine E_bipush (v := (-6)) dX7_cover_54 (by decide) ?_
  refine E_istore (l2 := [.ref 38, .int (nI h), .int (nI g), .int v, .int (-6), .null, .null]) dX7_cover_56 (by decide) rfl ?_
  refine E_iconst (v := 0) dX7_cover_58 (by decide) ?_
  refine E_istore (l2 := [.ref 38, .int (nI h), .int (nI g), .int v, .int (-6), .int 0, .null]) dX7_cover_59 (by decide) rfl ?_
  have L : ∀ i, i ≤ 64 → ∀ l6 : Value, E YX7_cover (d + 4) 61 [.ref 38, .int (nI h), .int (nI g), .int v, .int ((fcN s h g i).1), .int (nI i), l6] [] (hov hp [(38, .inr (7, [.ref 39, .ref 40, .int bu, .int (nI q), .ref 41, .int (nI n), .ref 42, .int fl, .int fa, .int fw, .int fr, .int rs, .int ac, .ref 43, .ref 44, .ref 45, .ref 46, .ref 47, .ref 48, .ref 49])), (39, .inl (false, 22, (bkF s)))]) (fun v h' => v = some (.int (-6)) ∧ h' = hov hp [(38, .inr (7, [.ref 39, .ref 40, .int bu, .int (nI q), .ref 41, .int (nI n), .ref 42, .int fl, .int fa, .int fw, .int fr, .int rs, .int ac, .ref 43, .ref 44, .ref 45, .ref 46, .ref 47, .ref 48, .ref 49])), (39, .inl (false, 22, (bkF s)))]) := by
    refine down 64 ?_ ?_
    · intro l6
      refine E_iload dX7_cover_61 rfl ?_
      refine E_bipush (v := 64) dX7_cover_63 (by decide) ?_
      refine E_icmp_ge (tgt := 145) dX7_cover_65 (by decide) (fun _ => ?_) (fun c => absurd (by decide) c)
      refine E_iload dX7_cover_145 rfl ?_
      refine E_if_lt (tgt := 155) dX7_cover_147 (by decide) (fun _ => ?_) (fun c => absurd (by rw [show (fcN s h g 64).1 = -6 from hn]; decide : (fcN s h g 64).1 < 0) c)
      refine E_iload dX7_cover_155 rfl ?_
      refine E_goto (tgt := 165) dX7_cover_157 (by decide) ?_
      exact E_iretf dX7_cover_165 rfl rfl hn rfl
    · intro i hi ih l6
      refine E_iload dX7_cover_61 rfl ?_
      refine E_bipush (v := 64) dX7_cover_63 (by decide) ?_
      refine E_icmp_ge (tgt := 145) dX7_cover_65 (by decide) (fun c => absurd c (cI_nle (n := 64) rfl hi (by decide))) (fun _ => ?_)
      refine E_iload dX7_cover_68 rfl ?_
      refine E_iload_n dX7_cover_70 rfl ?_
      refine E_callS (As := [.int (nI i), .int (nI h)]) (l' := [.int (nI i), .int (nI h)]) (st := []) dX7_cover_71 kX7_80 sX7_has MX7_has rfl rfl (Nat.le_of_ble_eq_true rfl) (FC.use (c_has (d + 3) _ _) rfl (L2 := [(38, .inr (7, [.ref 39, .ref 40, .int bu, .int (nI q), .ref 41, .int (nI n), .ref 42, .int fl, .int fa, .int fw, .int fr, .int rs, .int ac, .ref 43, .ref 44, .ref 45, .ref 46, .ref 47, .ref 48, .ref 49])), (39, .inl (false, 22, (bkF s)))]) rfl) (Nat.le_of_ble_eq_true rfl) (fun _ _ hq9 => E_fgo ?_ hq9)
      show E _ _ 74 [.ref 38, .int (nI h), .int (nI g), .int v, .int ((fcN s h g i).1), .int (nI i), l6] [.int (b2i (hbt (nI i) (nI h)))] (hov hp [(38, .inr (7, [.ref 39, .ref 40, .int bu, .int (nI q), .ref 41, .int (nI n), .ref 42, .int fl, .int fa, .int fw, .int fr, .int rs, .int ac, .ref 43, .ref 44, .ref 45, .ref 46, .ref 47, .ref 48, .ref 49])), (39, .inl (false, 22, (bkF s)))]) _
      refine E_if_ne (tgt := 108) dX7_cover_74 (by decide) (fun c74 => ?_) (fun c74 => ?_)
      · have c74 := b2i_n0 c74
        refine E_iconst (v := 0) dX7_cover_108 (by decide) ?_
        refine E_istore (l2 := [.ref 38, .int (nI h), .int (nI g), .int v, .int ((fcN s h g i).1), .int (nI i), .int 0]) dX7_cover_109 (by decide) rfl ?_
        refine E_iload dX7_cover_111 rfl ?_
        refine E_if_eq (tgt := 135) dX7_cover_113 (by decide) (fun _ => ?_) (fun c => by first | exact absurd c (by decide) | exact absurd (by decide) c)
        refine E_iload dX7_cover_135 rfl ?_
        refine E_istore (l2 := [.ref 38, .int (nI h), .int (nI g), .int v, .int ((fcN s h g i).1), .int (nI i), .int 0]) dX7_cover_137 (by decide) rfl ?_
        refine E_iinc (y := nI (i + 1)) (l2 := [.ref 38, .int (nI h), .int (nI g), .int v, .int ((fcN s h g i).1), .int (nI (i + 1)), .int 0]) dX7_cover_139 rfl (nI_1 _) (by decide) rfl ?_
        refine E_goto (tgt := 61) dX7_cover_142 (by decide) ?_
        have e9 := ih (.int 0)
        rw [fcN_a (by rw [fcP_h hi hh hg, c74]; rfl)] at e9
        exact e9
      · have c74 := b2i_e0 c74
        refine E_iload dX7_cover_77 rfl ?_
        refine E_iload_n dX7_cover_79 rfl ?_
        refine E_callS (As := [.int (nI i), .int (nI g)]) (l' := [.int (nI i), .int (nI g)]) (st := []) dX7_cover_80 kX7_80 sX7_has MX7_has rfl rfl (Nat.le_of_ble_eq_true rfl) (FC.use (c_has (d + 3) _ _) rfl (L2 := [(38, .inr (7, [.ref 39, .ref 40, .int bu, .int (nI q), .ref 41, .int (nI n), .ref 42, .int fl, .int fa, .int fw, .int fr, .int rs, .int ac, .ref 43, .ref 44, .ref 45, .ref 46, .ref 47, .ref 48, .ref 49])), (39, .inl (false, 22, (bkF s)))]) rfl) (Nat.le_of_ble_eq_true rfl) (fun _ _ hq9 => E_fgo ?_ hq9)
        show E _ _ 83 [.ref 38, .int (nI h), .int (nI g), .int v, .int ((fcN s h g i).1), .int (nI i), l6] [.int (b2i (hbt (nI i) (nI g)))] (hov hp [(38, .inr (7, [.ref 39, .ref 40, .int bu, .int (nI q), .ref 41, .int (nI n), .ref 42, .int fl, .int fa, .int fw, .int fr, .int rs, .int ac, .ref 43, .ref 44, .ref 45, .ref 46, .ref 47, .ref 48, .ref 49])), (39, .inl (false, 22, (bkF s)))]) _
        refine E_if_ne (tgt := 108) dX7_cover_83 (by decide) (fun c83 => ?_) (fun c83 => ?_)
        · have c83 := b2i_n0 c83
          refine E_iconst (v := 0) dX7_cover_108 (by decide) ?_
          refine E_istore (l2 := [.ref 38, .int (nI h), .int (nI g), .int v, .int ((fcN s h g i).1), .int (nI i), .int 0]) dX7_cover_109 (by decide) rfl ?_
          refine E_iload dX7_cover_111 rfl ?_
          refine E_if_eq (tgt := 135) dX7_cover_113 (by decide) (fun _ => ?_) (fun c => by first | exact absurd c (by decide) | exact absurd (by decide) c)
          refine E_iload dX7_cover_135 rfl ?_
          refine E_istore (l2 := [.ref 38, .int (nI h), .int (nI g), .int v, .int ((fcN s h g i).1), .int (nI i), .int 0]) dX7_cover_137 (by decide) rfl ?_
          refine E_iinc (y := nI (i + 1)) (l2 := [.ref 38, .int (nI h), .int (nI g), .int v, .int ((fcN s h g i).1), .int (nI (i + 1)), .int 0]) dX7_cover_139 rfl (nI_1 _) (by decide) rfl ?_
          refine E_goto (tgt := 61) dX7_cover_142 (by decide) ?_
          have e9 := ih (.int 0)
          rw [fcN_a (by rw [fcP_h hi hh hg, c83, Bool.not_true, Bool.and_false])] at e9
          exact e9
        · have c83 := b2i_e0 c83
          refine E_iload dX7_cover_86 rfl ?_
          refine E_if_lt (tgt := 104) dX7_cover_88 (by decide) (fun c88 => ?_) (fun c88 => ?_)
          · refine E_iconst (v := 1) dX7_cover_104 (by decide) ?_
            refine E_goto (tgt := 109) dX7_cover_105 (by decide) ?_
            refine E_istore (l2 := [.ref 38, .int (nI h), .int (nI g), .int v, .int ((fcN s h g i).1), .int (nI i), .int 1]) dX7_cover_109 (by decide) rfl ?_
            refine E_iload dX7_cover_111 rfl ?_
            refine E_if_eq (tgt := 135) dX7_cover_113 (by decide) (fun c => by first | exact absurd c (by decide) | exact absurd (by decide) c) (fun _ => ?_)
            refine E_aload_n dX7_cover_116 rfl ?_
            refine E_iload_n dX7_cover_117 rfl ?_
            refine E_iload dX7_cover_118 rfl ?_
            refine E_callV (As := [.int (nI h), .int (nI i)]) (l' := [.ref 38, .int (nI h), .int (nI i), .null, .null, .null, .null, .null]) (st := []) dX7_cover_120 kX7_123 iX7_chainOf vX7_chainOf (by decide) rfl rfl MX7_chainOf rfl rfl (Nat.le_of_ble_eq_true rfl) (FC.use (m_chainOf (d + 1) bu fl fa fw fr rs ac q n s hs h (by omega) (nI i)) rfl (L2 := [(38, .inr (7, [.ref 39, .ref 40, .int bu, .int (nI q), .ref 41, .int (nI n), .ref 42, .int fl, .int fa, .int fw, .int fr, .int rs, .int ac, .ref 43, .ref 44, .ref 45, .ref 46, .ref 47, .ref 48, .ref 49])), (39, .inl (false, 22, (bkF s)))]) rfl) (Nat.le_of_ble_eq_true rfl) (fun _ _ hq9 => E_fgo ?_ hq9)
            show E _ _ 123 [.ref 38, .int (nI h), .int (nI g), .int v, .int ((fcN s h g i).1), .int (nI i), .int 1] [.int (flOut s (nI i) h 6)] (hov hp [(38, .inr (7, [.ref 39, .ref 40, .int bu, .int (nI q), .ref 41, .int (nI n), .ref 42, .int fl, .int fa, .int fw, .int fr, .int rs, .int ac, .ref 43, .ref 44, .ref 45, .ref 46, .ref 47, .ref 48, .ref 49])), (39, .inl (false, 22, (bkF s)))]) _
            refine E_iload_n dX7_cover_123 rfl ?_
            refine E_callS (As := [.int (flOut s (nI i) h 6), .int (nI g)]) (l' := [.int (flOut s (nI i) h 6), .int (nI g)]) (st := []) dX7_cover_124 kX7_80 sX7_has MX7_has rfl rfl (Nat.le_of_ble_eq_true rfl) (FC.use (c_has (d + 3) _ _) rfl (L2 := [(38, .inr (7, [.ref 39, .ref 40, .int bu, .int (nI q), .ref 41, .int (nI n), .ref 42, .int fl, .int fa, .int fw, .int fr, .int rs, .int ac, .ref 43, .ref 44, .ref 45, .ref 46, .ref 47, .ref 48, .ref 49])), (39, .inl (false, 22, (bkF s)))]) rfl) (Nat.le_of_ble_eq_true rfl) (fun _ _ hq9 => E_fgo ?_ hq9)
            show E _ _ 127 [.ref 38, .int (nI h), .int (nI g), .int v, .int ((fcN s h g i).1), .int (nI i), .int 1] [.int (b2i (hbt (flOut s (nI i) h 6) (nI g)))] (hov hp [(38, .inr (7, [.ref 39, .ref 40, .int bu, .int (nI q), .ref 41, .int (nI n), .ref 42, .int fl, .int fa, .int fw, .int fr, .int rs, .int ac, .ref 43, .ref 44, .ref 45, .ref 46, .ref 47, .ref 48, .ref 49])), (39, .inl (false, 22, (bkF s)))]) _
            refine E_if_ne (tgt := 135) dX7_cover_127 (by decide) (fun c127 => ?_) (fun c127 => ?_)
            · have c127 := b2i_n0 c127
              refine E_iload dX7_cover_135 rfl ?_
              refine E_istore (l2 := [.ref 38, .int (nI h), .int (nI g), .int v, .int ((fcN s h g i).1), .int (nI i), .int 1]) dX7_cover_137 (by decide) rfl ?_
              refine E_iinc (y := nI (i + 1)) (l2 := [.ref 38, .int (nI h), .int (nI g), .int v, .int ((fcN s h g i).1), .int (nI (i + 1)), .int 1]) dX7_cover_139 rfl (nI_1 _) (by decide) rfl ?_
              refine E_goto (tgt := 61) dX7_cover_142 (by decide) ?_
              have e9 := ih (.int 1)
              rw [fcN_c c127] at e9
              exact e9
            · have c127 := b2i_e0 c127
              refine E_iload dX7_cover_130 rfl ?_
              refine E_goto (tgt := 137) dX7_cover_132 (by decide) ?_
              refine E_istore (l2 := [.ref 38, .int (nI h), .int (nI g), .int v, .int (nI i), .int (nI i), .int 1]) dX7_cover_137 (by decide) rfl ?_
              refine E_iinc (y := nI (i + 1)) (l2 := [.ref 38, .int (nI h), .int (nI g), .int v, .int (nI i), .int (nI (i + 1)), .int 1]) dX7_cover_139 rfl (nI_1 _) (by decide) rfl ?_
              refine E_goto (tgt := 61) dX7_cover_142 (by decide) ?_
              have e9 := ih (.int 1)
              rw [fcN_t (by rw [fcP_h hi hh hg, c74, c83]; rfl) (by rw [fc_neg (by omega) c88]; exact bc_k i hi) c127] at e9
              exact e9
          · refine E_iload dX7_cover_91 rfl ?_
            refine E_callS (As := [.int (nI i)]) (l' := [.int (nI i), .null, .null]) (st := []) dX7_cover_93 kX7_56 sX7_bits MX7_bits rfl rfl (Nat.le_of_ble_eq_true rfl) (FC.use (c_bits (d + 3) _) rfl (L2 := [(38, .inr (7, [.ref 39, .ref 40, .int bu, .int (nI q), .ref 41, .int (nI n), .ref 42, .int fl, .int fa, .int fw, .int fr, .int rs, .int ac, .ref 43, .ref 44, .ref 45, .ref 46, .ref 47, .ref 48, .ref 49])), (39, .inl (false, 22, (bkF s)))]) rfl) (Nat.le_of_ble_eq_true rfl) (fun _ _ hq9 => E_fgo ?_ hq9)
            show E _ _ 96 [.ref 38, .int (nI h), .int (nI g), .int v, .int ((fcN s h g i).1), .int (nI i), l6] [.int (bitN (nI i) 8)] (hov hp [(38, .inr (7, [.ref 39, .ref 40, .int bu, .int (nI q), .ref 41, .int (nI n), .ref 42, .int fl, .int fa, .int fw, .int fr, .int rs, .int ac, .ref 43, .ref 44, .ref 45, .ref 46, .ref 47, .ref 48, .ref 49])), (39, .inl (false, 22, (bkF s)))]) _
            refine E_eqi (y := bcI (nI i)) (bits_bc i (by omega)) ?_
            refine E_iload dX7_cover_96 rfl ?_
            refine E_callS (As := [.int ((fcN s h g i).1)]) (l' := [.int ((fcN s h g i).1), .null, .null]) (st := [.int (bcI (nI i))]) dX7_cover_98 kX7_56 sX7_bits MX7_bits rfl rfl (Nat.le_of_ble_eq_true rfl) (FC.use (c_bits (d + 3) _) rfl (L2 := [(38, .inr (7, [.ref 39, .ref 40, .int bu, .int (nI q), .ref 41, .int (nI n), .ref 42, .int fl, .int fa, .int fw, .int fr, .int rs, .int ac, .ref 43, .ref 44, .ref 45, .ref 46, .ref 47, .ref 48, .ref 49])), (39, .inl (false, 22, (bkF s)))]) rfl) (Nat.le_of_ble_eq_true rfl) (fun _ _ hq9 => E_fgo ?_ hq9)
            show E _ _ 101 [.ref 38, .int (nI h), .int (nI g), .int v, .int ((fcN s h g i).1), .int (nI i), l6] [.int (bitN ((fcN s h g i).1) 8), .int (bcI (nI i))] (hov hp [(38, .inr (7, [.ref 39, .ref 40, .int bu, .int (nI q), .ref 41, .int (nI n), .ref 42, .int fl, .int fa, .int fw, .int fr, .int rs, .int ac, .ref 43, .ref 44, .ref 45, .ref 46, .ref 47, .ref 48, .ref 49])), (39, .inl (false, 22, (bkF s)))]) _
            refine E_eqi (y := (fcN s h g i).2) (fc_pos (by omega) c88) ?_
            refine E_icmp_ge (tgt := 108) dX7_cover_101 (by decide) (fun c101 => ?_) (fun c101 => ?_)
            · rw [← Int32.not_lt] at c101
              refine E_iconst (v := 0) dX7_cover_108 (by decide) ?_
              refine E_istore (l2 := [.ref 38, .int (nI h), .int (nI g), .int v, .int ((fcN s h g i).1), .int (nI i), .int 0]) dX7_cover_109 (by decide) rfl ?_
              refine E_iload dX7_cover_111 rfl ?_
              refine E_if_eq (tgt := 135) dX7_cover_113 (by decide) (fun _ => ?_) (fun c => by first | exact absurd c (by decide) | exact absurd (by decide) c)
              refine E_iload dX7_cover_135 rfl ?_
              refine E_istore (l2 := [.ref 38, .int (nI h), .int (nI g), .int v, .int ((fcN s h g i).1), .int (nI i), .int 0]) dX7_cover_137 (by decide) rfl ?_
              refine E_iinc (y := nI (i + 1)) (l2 := [.ref 38, .int (nI h), .int (nI g), .int v, .int ((fcN s h g i).1), .int (nI (i + 1)), .int 0]) dX7_cover_139 rfl (nI_1 _) (by decide) rfl ?_
              refine E_goto (tgt := 61) dX7_cover_142 (by decide) ?_
              have e9 := ih (.int 0)
              rw [fcN_b c101] at e9
              exact e9
            · rw [Int32.not_le] at c101
              refine E_iconst (v := 1) dX7_cover_104 (by decide) ?_
              refine E_goto (tgt := 109) dX7_cover_105 (by decide) ?_
              refine E_istore (l2 := [.ref 38, .int (nI h), .int (nI g), .int v, .int ((fcN s h g i).1), .int (nI i), .int 1]) dX7_cover_109 (by decide) rfl ?_
              refine E_iload dX7_cover_111 rfl ?_
              refine E_if_eq (tgt := 135) dX7_cover_113 (by decide) (fun c => by first | exact absurd c (by decide) | exact absurd (by decide) c) (fun _ => ?_)
              refine E_aload_n dX7_cover_116 rfl ?_
              refine E_iload_n dX7_cover_117 rfl ?_
              refine E_iload dX7_cover_118 rfl ?_
              refine E_callV (As := [.int (nI h), .int (nI i)]) (l' := [.ref 38, .int (nI h), .int (nI i), .null, .null, .null, .null, .null]) (st := []) dX7_cover_120 kX7_123 iX7_chainOf vX7_chainOf (by decide) rfl rfl MX7_chainOf rfl rfl (Nat.le_of_ble_eq_true rfl) (FC.use (m_chainOf (d + 1) bu fl fa fw fr rs ac q n s hs h (by omega) (nI i)) rfl (L2 := [(38, .inr (7, [.ref 39, .ref 40, .int bu, .int (nI q), .ref 41, .int (nI n), .ref 42, .int fl, .int fa, .int fw, .int fr, .int rs, .int ac, .ref 43, .ref 44, .ref 45, .ref 46, .ref 47, .ref 48, .ref 49])), (39, .inl (false, 22, (bkF s)))]) rfl) (Nat.le_of_ble_eq_true rfl) (fun _ _ hq9 => E_fgo ?_ hq9)
              show E _ _ 123 [.ref 38, .int (nI h), .int (nI g), .int v, .int ((fcN s h g i).1), .int (nI i), .int 1] [.int (flOut s (nI i) h 6)] (hov hp [(38, .inr (7, [.ref 39, .ref 40, .int bu, .int (nI q), .ref 41, .int (nI n), .ref 42, .int fl, .int fa, .int fw, .int fr, .int rs, .int ac, .ref 43, .ref 44, .ref 45, .ref 46, .ref 47, .ref 48, .ref 49])), (39, .inl (false, 22, (bkF s)))]) _
              refine E_iload_n dX7_cover_123 rfl ?_
              refine E_callS (As := [.int (flOut s (nI i) h 6), .int (nI g)]) (l' := [.int (flOut s (nI i) h 6), .int (nI g)]) (st := []) dX7_cover_124 kX7_80 sX7_has MX7_has rfl rfl (Nat.le_of_ble_eq_true rfl) (FC.use (c_has (d + 3) _ _) rfl (L2 := [(38, .inr (7, [.ref 39, .ref 40, .int bu, .int (nI q), .ref 41, .int (nI n), .ref 42, .int fl, .int fa, .int fw, .int fr, .int rs, .int ac, .ref 43, .ref 44, .ref 45, .ref 46, .ref 47, .ref 48, .ref 49])), (39, .inl (false, 22, (bkF s)))]) rfl) (Nat.le_of_ble_eq_true rfl) (fun _ _ hq9 => E_fgo ?_ hq9)
              show E _ _ 127 [.ref 38, .int (nI h), .int (nI g), .int v, .int ((fcN s h g i).1), .int (nI i), .int 1] [.int (b2i (hbt (flOut s (nI i) h 6) (nI g)))] (hov hp [(38, .inr (7, [.ref 39, .ref 40, .int bu, .int (nI q), .ref 41, .int (nI n), .ref 42, .int fl, .int fa, .int fw, .int fr, .int rs, .int ac, .ref 43, .ref 44, .ref 45, .ref 46, .ref 47, .ref 48, .ref 49])), (39, .inl (false, 22, (bkF s)))]) _
              refine E_if_ne (tgt := 135) dX7_cover_127 (by decide) (fun c127 => ?_) (fun c127 => ?_)
              · have c127 := b2i_n0 c127
                refine E_iload dX7_cover_135 rfl ?_
                refine E_istore (l2 := [.ref 38, .int (nI h), .int (nI g), .int v, .int ((fcN s h g i).1), .int (nI i), .int 1]) dX7_cover_137 (by decide) rfl ?_
                refine E_iinc (y := nI (i + 1)) (l2 := [.ref 38, .int (nI h), .int (nI g), .int v, .int ((fcN s h g i).1), .int (nI (i + 1)), .int 1]) dX7_cover_139 rfl (nI_1 _) (by decide) rfl ?_
                refine E_goto (tgt := 61) dX7_cover_142 (by decide) ?_
                have e9 := ih (.int 1)
                rw [fcN_c c127] at e9
                exact e9
              · have c127 := b2i_e0 c127
                refine E_iload dX7_cover_130 rfl ?_
                refine E_goto (tgt := 137) dX7_cover_132 (by decide) ?_
                refine E_istore (l2 := [.ref 38, .int (nI h), .int (nI g), .int v, .int (nI i), .int (nI i), .int 1]) dX7_cover_137 (by decide) rfl ?_
                refine E_iinc (y := nI (i + 1)) (l2 := [.ref 38, .int (nI h), .int (nI g), .int v, .int (nI i), .int (nI (i + 1)), .int 1]) dX7_cover_139 rfl (nI_1 _) (by decide) rfl ?_
                refine E_goto (tgt := 61) dX7_cover_142 (by decide) ?_
                have e9 := ih (.int 1)
                rw [fcN_t (by rw [fcP_h hi hh hg, c74, c83]; rfl) c101 c127] at e9
                exact e9
  exact L 0 (by decide) _

set_option maxHeartbeats 4000000 in
set_option maxRecDepth 20000 in
theorem m_cov_0 (d : Nat) (bu fl fa fw fr rs ac : Int32) (q n : Nat) (s : CS) (hs : OkS s) (h g : Nat) (hh : h < 6) (hg : g < 6) (hne : ¬ nI h = nI g) (h1 : inI (nI h) 0 5 = true) (h2 : inI (nI g) 0 5 = true) (ha : ¬ she s h = 0) (hb : ¬ she s g = 0) (hn : ¬ fcB s h g = -6) : FC YX7_cover (d + 4) [.ref 38, .int (nI h), .int (nI g), .int 0, .null, .null, .null] [(38, .inr (7, [.ref 39, .ref 40, .int bu, .int (nI q), .ref 41, .int (nI n), .ref 42, .int fl, .int fa, .int fw, .int fr, .int rs, .int ac, .ref 43, .ref 44, .ref 45, .ref 46, .ref 47, .ref 48, .ref 49])), (39, .inl (false, 22, (bkF s)))] (some (.int (bcI (fcB s h g)))) [(38, .inr (7, [.ref 39, .ref 40, .int bu, .int (nI q), .ref 41, .int (nI n), .ref 42, .int fl, .int fa, .int fw, .int fr, .int rs, .int ac, .ref 43, .ref 44, .ref 45, .ref 46, .ref 47, .ref 48, .ref 49])), (39, .inl (false, 22, (bkF s)))] := by
  intro hp
  refine E_iload_n dX7_cover_0 rfl ?_
  refine E_callS (As := [.int (nI h)]) (l' := [.int (nI h)]) (st := []) dX7_cover_1 kX7_52 sX7_isHeap MX7_isHeap rfl rfl (Nat.le_of_ble_eq_true rfl) (FC.use (c_isHM (d + 2) _) rfl (L2 := [(38, .inr (7, [.ref 39, .ref 40, .int bu, .int (nI q), .ref 41, .int (nI n), .ref 42, .int fl, .int fa, .int fw, .int fr, .int rs, .int ac, .ref 43, .ref 44, .ref 45, .ref 46, .ref 47, .ref 48, .ref 49])), (39, .inl (false, 22, (bkF s)))]) rfl) (Nat.le_of_ble_eq_true rfl) (fun _ _ hq9 => E_fgo ?_ hq9)
  show E _ _ 4 [.ref 38, .int (nI h), .int (nI g), .int 0, .null, .null, .null] [.int (b2i (inI (nI h) 0 5))] (hov hp [(38, .inr (7, [.ref 39, .ref 40, .int bu, .int (nI q), .ref 41, .int (nI n), .ref 42, .int fl, .int fa, .int fw, .int fr, .int rs, .int ac, .ref 43, .ref 44, .ref 45, .ref 46, .ref 47, .ref 48, .ref 49])), (39, .inl (false, 22, (bkF s)))]) _
  refine E_if_eq (tgt := 19) dX7_cover_4 (by decide) (fun c => (b2i_x1 h1 c).elim) (fun _ => ?_)
  refine E_iload_n dX7_cover_7 rfl ?_
  refine E_callS (As := [.int (nI g)]) (l' := [.int (nI g)]) (st := []) dX7_cover_8 kX7_52 sX7_isHeap MX7_isHeap rfl rfl (Nat.le_of_ble_eq_true rfl) (FC.use (c_isHM (d + 2) _) rfl (L2 := [(38, .inr (7, [.ref 39, .ref 40, .int bu, .int (nI q), .ref 41, .int (nI n), .ref 42, .int fl, .int fa, .int fw, .int fr, .int rs, .int ac, .ref 43, .ref 44, .ref 45, .ref 46, .ref 47, .ref 48, .ref 49])), (39, .inl (false, 22, (bkF s)))]) rfl) (Nat.le_of_ble_eq_true rfl) (fun _ _ hq9 => E_fgo ?_ hq9)
  show E _ _ 11 [.ref 38, .int (nI h), .int (nI g), .int 0, .null, .null, .null] [.int (b2i (inI (nI g) 0 5))] (hov hp [(38, .inr (7, [.ref 39, .ref 40, .int bu, .int (nI q), .ref 41, .int (nI n), .ref 42, .int fl, .int fa, .int fw, .int fr, .int rs, .int ac, .ref 43, .ref 44, .ref 45, .ref 46, .ref 47, .ref 48, .ref 49])), (39, .inl (false, 22, (bkF s)))]) _
  refine E_if_eq (tgt := 19) dX7_cover_11 (by decide) (fun c => (b2i_x1 h2 c).elim) (fun _ => ?_)
  refine E_iload_n dX7_cover_14 rfl ?_
  refine E_iload_n dX7_cover_15 rfl ?_
  refine E_icmp_ne (tgt := 21) dX7_cover_16 (by decide) (fun _ => ?_) (fun c => absurd c hne)
  refine E_iload_n dX7_cover_21 rfl ?_
  refine E_iconst (v := 0) dX7_cover_22 (by decide) ?_
  refine E_iconst (v := 1) dX7_cover_23 (by decide) ?_
  refine E_callS (As := [.int 0, .int 0, .int 1]) (l' := [.int 0, .int 0, .int 1]) (st := []) dX7_cover_24 kX7_48 sX7_in MX7_in rfl rfl (Nat.le_of_ble_eq_true rfl) (FC.use (c_in (d + 3) _ _ _) rfl (L2 := [(38, .inr (7, [.ref 39, .ref 40, .int bu, .int (nI q), .ref 41, .int (nI n), .ref 42, .int fl, .int fa, .int fw, .int fr, .int rs, .int ac, .ref 43, .ref 44, .ref 45, .ref 46, .ref 47, .ref 48, .ref 49])), (39, .inl (false, 22, (bkF s)))]) rfl) (Nat.le_of_ble_eq_true rfl) (fun _ _ hq9 => E_fgo ?_ hq9)
  show E _ _ 27 [.ref 38, .int (nI h), .int (nI g), .int 0, .null, .null, .null] [.int (b2i (inI 0 0 1))] (hov hp [(38, .inr (7, [.ref 39, .ref 40, .int bu, .int (nI q), .ref 41, .int (nI n), .ref 42, .int fl, .int fa, .int fw, .int fr, .int rs, .int ac, .ref 43, .ref 44, .ref 45, .ref 46, .ref 47, .ref 48, .ref 49])), (39, .inl (false, 22, (bkF s)))]) _
  refine E_if_ne (tgt := 33) dX7_cover_27 (by decide) (fun _ => ?_) (fun c => (b2i_x1 (by decide) c).elim)
  refine E_aload_n dX7_cover_33 rfl ?_
  refine E_get dX7_cover_34 fX7_7 (by decide) rfl rfl ?_
  refine E_iload_n dX7_cover_37 rfl ?_
  refine E_ialdN (j := h) dX7_cover_38 (by decide) rfl (by omega) (by decide) ?_
  refine E_eqi (y := she s h) (bk_h hh) ?_
  refine E_if_eq (tgt := 51) dX7_cover_39 (by decide) (fun c => absurd c ha) (fun _ => ?_)
  refine E_aload_n dX7_cover_42 rfl ?_
  refine E_get dX7_cover_43 fX7_7 (by decide) rfl rfl ?_
  refine E_iload_n dX7_cover_46 rfl ?_
  refine E_ialdN (j := g) dX7_cover_47 (by decide) rfl (by omega) (by decide) ?_
  refine E_eqi (y := she s g) (bk_h hg) ?_
  refine E_if_ne (tgt := 54) dX7_cover_48 (by decide) (fun _ => ?_) (fun c => absurd c hb)
  refine E_bipush (v := (-6)) dX7_cover_54 (by decide) ?_
  refine E_istore (l2 := [.ref 38, .int (nI h), .int (nI g), .int 0, .int (-6), .null, .null]) dX7_cover_56 (by decide) rfl ?_
  refine E_iconst (v := 0) dX7_cover_58 (by decide) ?_
  refine E_istore (l2 := [.ref 38, .int (nI h), .int (nI g), .int 0, .int (-6), .int 0, .null]) dX7_cover_59 (by decide) rfl ?_
  have L : ∀ i, i ≤ 64 → ∀ l6 : Value, E YX7_cover (d + 4) 61 [.ref 38, .int (nI h), .int (nI g), .int 0, .int ((fcN s h g i).1), .int (nI i), l6] [] (hov hp [(38, .inr (7, [.ref 39, .ref 40, .int bu, .int (nI q), .ref 41, .int (nI n), .ref 42, .int fl, .int fa, .int fw, .int fr, .int rs, .int ac, .ref 43, .ref 44, .ref 45, .ref 46, .ref 47, .ref 48, .ref 49])), (39, .inl (false, 22, (bkF s)))]) (fun v h' => v = some (.int (bcI (fcB s h g))) ∧ h' = hov hp [(38, .inr (7, [.ref 39, .ref 40, .int bu, .int (nI q), .ref 41, .int (nI n), .ref 42, .int fl, .int fa, .int fw, .int fr, .int rs, .int ac, .ref 43, .ref 44, .ref 45, .ref 46, .ref 47, .ref 48, .ref 49])), (39, .inl (false, 22, (bkF s)))]) := by
    refine down 64 ?_ ?_
    · intro l6
      refine E_iload dX7_cover_61 rfl ?_
      refine E_bipush (v := 64) dX7_cover_63 (by decide) ?_
      refine E_icmp_ge (tgt := 145) dX7_cover_65 (by decide) (fun _ => ?_) (fun c => absurd (by decide) c)
      refine E_iload dX7_cover_145 rfl ?_
      refine E_if_lt (tgt := 155) dX7_cover_147 (by decide) (fun c => absurd c (fcB_n hn).1) (fun _ => ?_)
      refine E_iload_n dX7_cover_150 rfl ?_
      refine E_iconst (v := 1) dX7_cover_151 (by decide) ?_
      refine E_icmp_ne (tgt := 160) dX7_cover_152 (by decide) (fun _ => ?_) (fun c => by first | exact absurd c (by decide) | exact absurd (by decide) c)
      refine E_iload dX7_cover_160 rfl ?_
      refine E_callS (As := [.int ((fcN s h g 64).1)]) (l' := [.int ((fcN s h g 64).1), .null, .null]) (st := []) dX7_cover_162 kX7_56 sX7_bits MX7_bits rfl rfl (Nat.le_of_ble_eq_true rfl) (FC.use (c_bits (d + 3) _) rfl (L2 := [(38, .inr (7, [.ref 39, .ref 40, .int bu, .int (nI q), .ref 41, .int (nI n), .ref 42, .int fl, .int fa, .int fw, .int fr, .int rs, .int ac, .ref 43, .ref 44, .ref 45, .ref 46, .ref 47, .ref 48, .ref 49])), (39, .inl (false, 22, (bkF s)))]) rfl) (Nat.le_of_ble_eq_true rfl) (fun _ _ hq9 => E_fgo ?_ hq9)
      show E _ _ 165 [.ref 38, .int (nI h), .int (nI g), .int 0, .int ((fcN s h g 64).1), .int (nI 64), l6] [.int (bitN ((fcN s h g 64).1) 8)] (hov hp [(38, .inr (7, [.ref 39, .ref 40, .int bu, .int (nI q), .ref 41, .int (nI n), .ref 42, .int fl, .int fa, .int fw, .int fr, .int rs, .int ac, .ref 43, .ref 44, .ref 45, .ref 46, .ref 47, .ref 48, .ref 49])), (39, .inl (false, 22, (bkF s)))]) _
      refine E_eqi (y := bcI (fcB s h g)) ((fcB_n hn).2) ?_
      exact E_iretf dX7_cover_165 rfl rfl rfl rfl
    · intro i hi ih l6
      refine E_iload dX7_cover_61 rfl ?_
      refine E_bipush (v := 64) dX7_cover_63 (by decide) ?_
      refine E_icmp_ge (tgt := 145) dX7_cover_65 (by decide) (fun c => absurd c (cI_nle (n := 64) rfl hi (by decide))) (fun _ => ?_)
      refine E_iload dX7_cover_68 rfl ?_
      refine E_iload_n dX7_cover_70 rfl ?_
      refine E_callS (As := [.int (nI i), .int (nI h)]) (l' := [.int (nI i), .int (nI h)]) (st := []) dX7_cover_71 kX7_80 sX7_has MX7_has rfl rfl (Nat.le_of_ble_eq_true rfl) (FC.use (c_has (d + 3) _ _) rfl (L2 := [(38, .inr (7, [.ref 39, .ref 40, .int bu, .int (nI q), .ref 41, .int (nI n), .ref 42, .int fl, .int fa, .int fw, .int fr, .int rs, .int ac, .ref 43, .ref 44, .ref 45, .ref 46, .ref 47, .ref 48, .ref 49])), (39, .inl (false, 22, (bkF s)))]) rfl) (Nat.le_of_ble_eq_true rfl) (fun _ _ hq9 => E_fgo ?_ hq9)
      show E _ _ 74 [.ref 38, .int (nI h), .int (nI g), .int 0, .int ((fcN s h g i).1), .int (nI i), l6] [.int (b2i (hbt (nI i) (nI h)))] (hov hp [(38, .inr (7, [.ref 39, .ref 40, .int bu, .int (nI q), .ref 41, .int (nI n), .ref 42, .int fl, .int fa, .int fw, .int fr, .int rs, .int ac, .ref 43, .ref 44, .ref 45, .ref 46, .ref 47, .ref 48, .ref 49])), (39, .inl (false, 22, (bkF s)))]) _
      refine E_if_ne (tgt := 108) dX7_cover_74 (by decide) (fun c74 => ?_) (fun c74 => ?_)
      · have c74 := b2i_n0 c74
        refine E_iconst (v := 0) dX7_cover_108 (by decide) ?_
        refine E_istore (l2 := [.ref 38, .int (nI h), .int (nI g), .int 0, .int ((fcN s h g i).1), .int (nI i), .int 0]) dX7_cover_109 (by decide) rfl ?_
        refine E_iload dX7_cover_111 rfl ?_
        refine E_if_eq (tgt := 135) dX7_cover_113 (by decide) (fun _ => ?_) (fun c => by first | exact absurd c (by decide) | exact absurd (by decide) c)
        refine E_iload dX7_cover_135 rfl ?_
        refine E_istore (l2 := [.ref 38, .int (nI h), .int (nI g), .int 0, .int ((fcN s h g i).1), .int (nI i), .int 0]) dX7_cover_137 (by decide) rfl ?_
        refine E_iinc (y := nI (i + 1)) (l2 := [.ref 38, .int (nI h), .int (nI g), .int 0, .int ((fcN s h g i).1), .int (nI (i + 1)), .int 0]) dX7_cover_139 rfl (nI_1 _) (by decide) rfl ?_
        refine E_goto (tgt := 61) dX7_cover_142 (by decide) ?_
        have e9 := ih (.int 0)
        rw [fcN_a (by rw [fcP_h hi hh hg, c74]; rfl)] at e9
        exact e9
      · have c74 := b2i_e0 c74
        refine E_iload dX7_cover_77 rfl ?_
        refine E_iload_n dX7_cover_79 rfl ?_
        refine E_callS (As := [.int (nI i), .int (nI g)]) (l' := [.int (nI i), .int (nI g)]) (st := []) dX7_cover_80 kX7_80 sX7_has MX7_has rfl rfl (Nat.le_of_ble_eq_true rfl) (FC.use (c_has (d + 3) _ _) rfl (L2 := [(38, .inr (7, [.ref 39, .ref 40, .int bu, .int (nI q), .ref 41, .int (nI n), .ref 42, .int fl, .int fa, .int fw, .int fr, .int rs, .int ac, .ref 43, .ref 44, .ref 45, .ref 46, .ref 47, .ref 48, .ref 49])), (39, .inl (false, 22, (bkF s)))]) rfl) (Nat.le_of_ble_eq_true rfl) (fun _ _ hq9 => E_fgo ?_ hq9)
        show E _ _ 83 [.ref 38, .int (nI h), .int (nI g), .int 0, .int ((fcN s h g i).1), .int (nI i), l6] [.int (b2i (hbt (nI i) (nI g)))] (hov hp [(38, .inr (7, [.ref 39, .ref 40, .int bu, .int (nI q), .ref 41, .int (nI n), .ref 42, .int fl, .int fa, .int fw, .int fr, .int rs, .int ac, .ref 43, .ref 44, .ref 45, .ref 46, .ref 47, .ref 48, .ref 49])), (39, .inl (false, 22, (bkF s)))]) _
        refine E_if_ne (tgt := 108) dX7_cover_83 (by decide) (fun c83 => ?_) (fun c83 => ?_)
        · have c83 := b2i_n0 c83
          refine E_iconst (v := 0) dX7_cover_108 (by decide) ?_
          refine E_istore (l2 := [.ref 38, .int (nI h), .int (nI g), .int 0, .int ((fcN s h g i).1), .int (nI i), .int 0]) dX7_cover_109 (by decide) rfl ?_
          refine E_iload dX7_cover_111 rfl ?_
          refine E_if_eq (tgt := 135) dX7_cover_113 (by decide) (fun _ => ?_) (fun c => by first | exact absurd c (by decide) | exact absurd (by decide) c)
          refine E_iload dX7_cover_135 rfl ?_
          refine E_istore (l2 := [.ref 38, .int (nI h), .int (nI g), .int 0, .int ((fcN s h g i).1), .int (nI i), .int 0]) dX7_cover_137 (by decide) rfl ?_
          refine E_iinc (y := nI (i + 1)) (l2 := [.ref 38, .int (nI h), .int (nI g), .int 0, .int ((fcN s h g i).1), .int (nI (i + 1)), .int 0]) dX7_cover_139 rfl (nI_1 _) (by decide) rfl ?_
          refine E_goto (tgt := 61) dX7_cover_142 (by decide) ?_
          have e9 := ih (.int 0)
          rw [fcN_a (by rw [fcP_h hi hh hg, c83, Bool.not_true, Bool.and_false])] at e9
          exact e9
        · have c83 := b2i_e0 c83
          refine E_iload dX7_cover_86 rfl ?_
          refine E_if_lt (tgt := 104) dX7_cover_88 (by decide) (fun c88 => ?_) (fun c88 => ?_)
          · refine E_iconst (v := 1) dX7_cover_104 (by decide) ?_
            refine E_goto (tgt := 109) dX7_cover_105 (by decide) ?_
            refine E_istore (l2 := [.ref 38, .int (nI h), .int (nI g), .int 0, .int ((fcN s h g i).1), .int (nI i), .int 1]) dX7_cover_109 (by decide) rfl ?_
            refine E_iload dX7_cover_111 rfl ?_
            refine E_if_eq (tgt := 135) dX7_cover_113 (by decide) (fun c => by first | exact absurd c (by decide) | exact absurd (by decide) c) (fun _ => ?_)
            refine E_aload_n dX7_cover_116 rfl ?_
            refine E_iload_n dX7_cover_117 rfl ?_
            refine E_iload dX7_cover_118 rfl ?_
            refine E_callV (As := [.int (nI h), .int (nI i)]) (l' := [.ref 38, .int (nI h), .int (nI i), .null, .null, .null, .null, .null]) (st := []) dX7_cover_120 kX7_123 iX7_chainOf vX7_chainOf (by decide) rfl rfl MX7_chainOf rfl rfl (Nat.le_of_ble_eq_true rfl) (FC.use (m_chainOf (d + 1) bu fl fa fw fr rs ac q n s hs h (by omega) (nI i)) rfl (L2 := [(38, .inr (7, [.ref 39, .ref 40, .int bu, .int (nI q), .ref 41, .int (nI n), .ref 42, .int fl, .int fa, .int fw, .int fr, .int rs, .int ac, .ref 43, .ref 44, .ref 45, .ref 46, .ref 47, .ref 48, .ref 49])), (39, .inl (false, 22, (bkF s)))]) rfl) (Nat.le_of_ble_eq_true rfl) (fun _ _ hq9 => E_fgo ?_ hq9)
            show E _ _ 123 [.ref 38, .int (nI h), .int (nI g), .int 0, .int ((fcN s h g i).1), .int (nI i), .int 1] [.int (flOut s (nI i) h 6)] (hov hp [(38, .inr (7, [.ref 39, .ref 40, .int bu, .int (nI q), .ref 41, .int (nI n), .ref 42, .int fl, .int fa, .int fw, .int fr, .int rs, .int ac, .ref 43, .ref 44, .ref 45, .ref 46, .ref 47, .ref 48, .ref 49])), (39, .inl (false, 22, (bkF s)))]) _
            refine E_iload_n dX7_cover_123 rfl ?_
            refine E_callS (As := [.int (flOut s (nI i) h 6), .int (nI g)]) (l' := [.int (flOut s (nI i) h 6), .int (nI g)]) (st := []) dX7_cover_124 kX7_80 sX7_has MX7_has rfl rfl (Nat.le_of_ble_eq_true rfl) (FC.use (c_has (d + 3) _ _) rfl (L2 := [(38, .inr (7, [.ref 39, .ref 40, .int bu, .int (nI q), .ref 41, .int (nI n), .ref 42, .int fl, .int fa, .int fw, .int fr, .int rs, .int ac, .ref 43, .ref 44, .ref 45, .ref 46, .ref 47, .ref 48, .ref 49])), (39, .inl (false, 22, (bkF s)))]) rfl) (Nat.le_of_ble_eq_true rfl) (fun _ _ hq9 => E_fgo ?_ hq9)
            show E _ _ 127 [.ref 38, .int (nI h), .int (nI g), .int 0, .int ((fcN s h g i).1), .int (nI i), .int 1] [.int (b2i (hbt (flOut s (nI i) h 6) (nI g)))] (hov hp [(38, .inr (7, [.ref 39, .ref 40, .int bu, .int (nI q), .ref 41, .int (nI n), .ref 42, .int fl, .int fa, .int fw, .int fr, .int rs, .int ac, .ref 43, .ref 44, .ref 45, .ref 46, .ref 47, .ref 48, .ref 49])), (39, .inl (false, 22, (bkF s)))]) _
            refine E_if_ne (tgt := 135) dX7_cover_127 (by decide) (fun c127 => ?_) (fun c127 => ?_)
            · have c127 := b2i_n0 c127
              refine E_iload dX7_cover_135 rfl ?_
              refine E_istore (l2 := [.ref 38, .int (nI h), .int (nI g), .int 0, .int ((fcN s h g i).1), .int (nI i), .int 1]) dX7_cover_137 (by decide) rfl ?_
              refine E_iinc (y := nI (i + 1)) (l2 := [.ref 38, .int (nI h), .int (nI g), .int 0, .int ((fcN s h g i).1), .int (nI (i + 1)), .int 1]) dX7_cover_139 rfl (nI_1 _) (by decide) rfl ?_
              refine E_goto (tgt := 61) dX7_cover_142 (by decide) ?_
              have e9 := ih (.int 1)
              rw [fcN_c c127] at e9
              exact e9
            · have c127 := b2i_e0 c127
              refine E_iload dX7_cover_130 rfl ?_
              refine E_goto (tgt := 137) dX7_cover_132 (by decide) ?_
              refine E_istore (l2 := [.ref 38, .int (nI h), .int (nI g), .int 0, .int (nI i), .int (nI i), .int 1]) dX7_cover_137 (by decide) rfl ?_
              refine E_iinc (y := nI (i + 1)) (l2 := [.ref 38, .int (nI h), .int (nI g), .int 0, .int (nI i), .int (nI (i + 1)), .int 1]) dX7_cover_139 rfl (nI_1 _) (by decide) rfl ?_
              refine E_goto (tgt := 61) dX7_cover_142 (by decide) ?_
              have e9 := ih (.int 1)
              rw [fcN_t (by rw [fcP_h hi hh hg, c74, c83]; rfl) (by rw [fc_neg (by omega) c88]; exact bc_k i hi) c127] at e9
              exact e9
          · refine E_iload dX7_cover_91 rfl ?_
            refine E_callS (As := [.int (nI i)]) (l' := [.int (nI i), .null, .null]) (st := []) dX7_cover_93 kX7_56 sX7_bits MX7_bits rfl rfl (Nat.le_of_ble_eq_true rfl) (FC.use (c_bits (d + 3) _) rfl (L2 := [(38, .inr (7, [.ref 39, .ref 40, .int bu, .int (nI q), .ref 41, .int (nI n), .ref 42, .int fl, .int fa, .int fw, .int fr, .int rs, .int ac, .ref 43, .ref 44, .ref 45, .ref 46, .ref 47, .ref 48, .ref 49])), (39, .inl (false, 22, (bkF s)))]) rfl) (Nat.le_of_ble_eq_true rfl) (fun _ _ hq9 => E_fgo ?_ hq9)
            show E _ _ 96 [.ref 38, .int (nI h), .int (nI g), .int 0, .int ((fcN s h g i).1), .int (nI i), l6] [.int (bitN (nI i) 8)] (hov hp [(38, .inr (7, [.ref 39, .ref 40, .int bu, .int (nI q), .ref 41, .int (nI n), .ref 42, .int fl, .int fa, .int fw, .int fr, .int rs, .int ac, .ref 43, .ref 44, .ref 45, .ref 46, .ref 47, .ref 48, .ref 49])), (39, .inl (false, 22, (bkF s)))]) _
            refine E_eqi (y := bcI (nI i)) (bits_bc i (by omega)) ?_
            refine E_iload dX7_cover_96 rfl ?_
            refine E_callS (As := [.int ((fcN s h g i).1)]) (l' := [.int ((fcN s h g i).1), .null, .null]) (st := [.int (bcI (nI i))]) dX7_cover_98 kX7_56 sX7_bits MX7_bits rfl rfl (Nat.le_of_ble_eq_true rfl) (FC.use (c_bits (d + 3) _) rfl (L2 := [(38, .inr (7, [.ref 39, .ref 40, .int bu, .int (nI q), .ref 41, .int (nI n), .ref 42, .int fl, .int fa, .int fw, .int fr, .int rs, .int ac, .ref 43, .ref 44, .ref 45, .ref 46, .ref 47, .ref 48, .ref 49])), (39, .inl (false, 22, (bkF s)))]) rfl) (Nat.le_of_ble_eq_true rfl) (fun _ _ hq9 => E_fgo ?_ hq9)
            show E _ _ 101 [.ref 38, .int (nI h), .int (nI g), .int 0, .int ((fcN s h g i).1), .int (nI i), l6] [.int (bitN ((fcN s h g i).1) 8), .int (bcI (nI i))] (hov hp [(38, .inr (7, [.ref 39, .ref 40, .int bu, .int (nI q), .ref 41, .int (nI n), .ref 42, .int fl, .int fa, .int fw, .int fr, .int rs, .int ac, .ref 43, .ref 44, .ref 45, .ref 46, .ref 47, .ref 48, .ref 49])), (39, .inl (false, 22, (bkF s)))]) _
            refine E_eqi (y := (fcN s h g i).2) (fc_pos (by omega) c88) ?_
            refine E_icmp_ge (tgt := 108) dX7_cover_101 (by decide) (fun c101 => ?_) (fun c101 => ?_)
            · rw [← Int32.not_lt] at c101
              refine E_iconst (v := 0) dX7_cover_108 (by decide) ?_
              refine E_istore (l2 := [.ref 38, .int (nI h), .int (nI g), .int 0, .int ((fcN s h g i).1), .int (nI i), .int 0]) dX7_cover_109 (by decide) rfl ?_
              refine E_iload dX7_cover_111 rfl ?_
              refine E_if_eq (tgt := 135) dX7_cover_113 (by decide) (fun _ => ?_) (fun c => by first | exact absurd c (by decide) | exact absurd (by decide) c)
              refine E_iload dX7_cover_135 rfl ?_
              refine E_istore (l2 := [.ref 38, .int (nI h), .int (nI g), .int 0, .int ((fcN s h g i).1), .int (nI i), .int 0]) dX7_cover_137 (by decide) rfl ?_
              refine E_iinc (y := nI (i + 1)) (l2 := [.ref 38, .int (nI h), .int (nI g), .int 0, .int ((fcN s h g i).1), .int (nI (i + 1)), .int 0]) dX7_cover_139 rfl (nI_1 _) (by decide) rfl ?_
              refine E_goto (tgt := 61) dX7_cover_142 (by decide) ?_
              have e9 := ih (.int 0)
              rw [fcN_b c101] at e9
              exact e9
            · rw [Int32.not_le] at c101
              refine E_iconst (v := 1) dX7_cover_104 (by decide) ?_
              refine E_goto (tgt := 109) dX7_cover_105 (by decide) ?_
              refine E_istore (l2 := [.ref 38, .int (nI h), .int (nI g), .int 0, .int ((fcN s h g i).1), .int (nI i), .int 1]) dX7_cover_109 (by decide) rfl ?_
              refine E_iload dX7_cover_111 rfl ?_
              refine E_if_eq (tgt := 135) dX7_cover_113 (by decide) (fun c => by first | exact absurd c (by decide) | exact absurd (by decide) c) (fun _ => ?_)
              refine E_aload_n dX7_cover_116 rfl ?_
              refine E_iload_n dX7_cover_117 rfl ?_
              refine E_iload dX7_cover_118 rfl ?_
              refine E_callV (As := [.int (nI h), .int (nI i)]) (l' := [.ref 38, .int (nI h), .int (nI i), .null, .null, .null, .null, .null]) (st := []) dX7_cover_120 kX7_123 iX7_chainOf vX7_chainOf (by decide) rfl rfl MX7_chainOf rfl rfl (Nat.le_of_ble_eq_true rfl) (FC.use (m_chainOf (d + 1) bu fl fa fw fr rs ac q n s hs h (by omega) (nI i)) rfl (L2 := [(38, .inr (7, [.ref 39, .ref 40, .int bu, .int (nI q), .ref 41, .int (nI n), .ref 42, .int fl, .int fa, .int fw, .int fr, .int rs, .int ac, .ref 43, .ref 44, .ref 45, .ref 46, .ref 47, .ref 48, .ref 49])), (39, .inl (false, 22, (bkF s)))]) rfl) (Nat.le_of_ble_eq_true rfl) (fun _ _ hq9 => E_fgo ?_ hq9)
              show E _ _ 123 [.ref 38, .int (nI h), .int (nI g), .int 0, .int ((fcN s h g i).1), .int (nI i), .int 1] [.int (flOut s (nI i) h 6)] (hov hp [(38, .inr (7, [.ref 39, .ref 40, .int bu, .int (nI q), .ref 41, .int (nI n), .ref 42, .int fl, .int fa, .int fw, .int fr, .int rs, .int ac, .ref 43, .ref 44, .ref 45, .ref 46, .ref 47, .ref 48, .ref 49])), (39, .inl (false, 22, (bkF s)))]) _
              refine E_iload_n dX7_cover_123 rfl ?_
              refine E_callS (As := [.int (flOut s (nI i) h 6), .int (nI g)]) (l' := [.int (flOut s (nI i) h 6), .int (nI g)]) (st := []) dX7_cover_124 kX7_80 sX7_has MX7_has rfl rfl (Nat.le_of_ble_eq_true rfl) (FC.use (c_has (d + 3) _ _) rfl (L2 := [(38, .inr (7, [.ref 39, .ref 40, .int bu, .int (nI q), .ref 41, .int (nI n), .ref 42, .int fl, .int fa, .int fw, .int fr, .int rs, .int ac, .ref 43, .ref 44, .ref 45, .ref 46, .ref 47, .ref 48, .ref 49])), (39, .inl (false, 22, (bkF s)))]) rfl) (Nat.le_of_ble_eq_true rfl) (fun _ _ hq9 => E_fgo ?_ hq9)
              show E _ _ 127 [.ref 38, .int (nI h), .int (nI g), .int 0, .int ((fcN s h g i).1), .int (nI i), .int 1] [.int (b2i (hbt (flOut s (nI i) h 6) (nI g)))] (hov hp [(38, .inr (7, [.ref 39, .ref 40, .int bu, .int (nI q), .ref 41, .int (nI n), .ref 42, .int fl, .int fa, .int fw, .int fr, .int rs, .int ac, .ref 43, .ref 44, .ref 45, .ref 46, .ref 47, .ref 48, .ref 49])), (39, .inl (false, 22, (bkF s)))]) _
              refine E_if_ne (tgt := 135) dX7_cover_127 (by decide) (fun c127 => ?_) (fun c127 => ?_)
              · have c127 := b2i_n0 c127
                refine E_iload dX7_cover_135 rfl ?_
                refine E_istore (l2 := [.ref 38, .int (nI h), .int (nI g), .int 0, .int ((fcN s h g i).1), .int (nI i), .int 1]) dX7_cover_137 (by decide) rfl ?_
                refine E_iinc (y := nI (i + 1)) (l2 := [.ref 38, .int (nI h), .int (nI g), .int 0, .int ((fcN s h g i).1), .int (nI (i + 1)), .int 1]) dX7_cover_139 rfl (nI_1 _) (by decide) rfl ?_
                refine E_goto (tgt := 61) dX7_cover_142 (by decide) ?_
                have e9 := ih (.int 1)
                rw [fcN_c c127] at e9
                exact e9
              · have c127 := b2i_e0 c127
                refine E_iload dX7_cover_130 rfl ?_
                refine E_goto (tgt := 137) dX7_cover_132 (by decide) ?_
                refine E_istore (l2 := [.ref 38, .int (nI h), .int (nI g), .int 0, .int (nI i), .int (nI i), .int 1]) dX7_cover_137 (by decide) rfl ?_
                refine E_iinc (y := nI (i + 1)) (l2 := [.ref 38, .int (nI h), .int (nI g), .int 0, .int (nI i), .int (nI (i + 1)), .int 1]) dX7_cover_139 rfl (nI_1 _) (by decide) rfl ?_
                refine E_goto (tgt := 61) dX7_cover_142 (by decide) ?_
                have e9 := ih (.int 1)
                rw [fcN_t (by rw [fcP_h hi hh hg, c74, c83]; rfl) c101 c127] at e9
                exact e9
  exact L 0 (by decide) _

set_option maxHeartbeats 4000000 in
set_option maxRecDepth 20000 in
theorem m_cov_1 (d : Nat) (bu fl fa fw fr rs ac : Int32) (q n : Nat) (s : CS) (hs : OkS s) (h g : Nat) (hh : h < 6) (hg : g < 6) (hne : ¬ nI h = nI g) (h1 : inI (nI h) 0 5 = true) (h2 : inI (nI g) 0 5 = true) (ha : ¬ she s h = 0) (hb : ¬ she s g = 0) (hn : ¬ fcB s h g = -6) : FC YX7_cover (d + 4) [.ref 38, .int (nI h), .int (nI g), .int 1, .null, .null, .null] [(38, .inr (7, [.ref 39, .ref 40, .int bu, .int (nI q), .ref 41, .int (nI n), .ref 42, .int fl, .int fa, .int fw, .int fr, .int rs, .int ac, .ref 43, .ref 44, .ref 45, .ref 46, .ref 47, .ref 48, .ref 49])), (39, .inl (false, 22, (bkF s)))] (some (.int (fcB s h g))) [(38, .inr (7, [.ref 39, .ref 40, .int bu, .int (nI q), .ref 41, .int (nI n), .ref 42, .int fl, .int fa, .int fw, .int fr, .int rs, .int ac, .ref 43, .ref 44, .ref 45, .ref 46, .ref 47, .ref 48, .ref 49])), (39, .inl (false, 22, (bkF s)))] := by
  intro hp
  refine E_iload_n dX7_cover_0 rfl ?_
  refine E_callS (As := [.int (nI h)]) (l' := [.int (nI h)]) (st := []) dX7_cover_1 kX7_52 sX7_isHeap MX7_isHeap rfl rfl (Nat.le_of_ble_eq_true rfl) (FC.use (c_isHM (d + 2) _) rfl (L2 := [(38, .inr (7, [.ref 39, .ref 40, .int bu, .int (nI q), .ref 41, .int (nI n), .ref 42, .int fl, .int fa, .int fw, .int fr, .int rs, .int ac, .ref 43, .ref 44, .ref 45, .ref 46, .ref 47, .ref 48, .ref 49])), (39, .inl (false, 22, (bkF s)))]) rfl) (Nat.le_of_ble_eq_true rfl) (fun _ _ hq9 => E_fgo ?_ hq9)
  show E _ _ 4 [.ref 38, .int (nI h), .int (nI g), .int 1, .null, .null, .null] [.int (b2i (inI (nI h) 0 5))] (hov hp [(38, .inr (7, [.ref 39, .ref 40, .int bu, .int (nI q), .ref 41, .int (nI n), .ref 42, .int fl, .int fa, .int fw, .int fr, .int rs, .int ac, .ref 43, .ref 44, .ref 45, .ref 46, .ref 47, .ref 48, .ref 49])), (39, .inl (false, 22, (bkF s)))]) _
  refine E_if_eq (tgt := 19) dX7_cover_4 (by decide) (fun c => (b2i_x1 h1 c).elim) (fun _ => ?_)
  refine E_iload_n dX7_cover_7 rfl ?_
  refine E_callS (As := [.int (nI g)]) (l' := [.int (nI g)]) (st := []) dX7_cover_8 kX7_52 sX7_isHeap MX7_isHeap rfl rfl (Nat.le_of_ble_eq_true rfl) (FC.use (c_isHM (d + 2) _) rfl (L2 := [(38, .inr (7, [.ref 39, .ref 40, .int bu, .int (nI q), .ref 41, .int (nI n), .ref 42, .int fl, .int fa, .int fw, .int fr, .int rs, .int ac, .ref 43, .ref 44, .ref 45, .ref 46, .ref 47, .ref 48, .ref 49])), (39, .inl (false, 22, (bkF s)))]) rfl) (Nat.le_of_ble_eq_true rfl) (fun _ _ hq9 => E_fgo ?_ hq9)
  show E _ _ 11 [.ref 38, .int (nI h), .int (nI g), .int 1, .null, .null, .null] [.int (b2i (inI (nI g) 0 5))] (hov hp [(38, .inr (7, [.ref 39, .ref 40, .int bu, .int (nI q), .ref 41, .int (nI n), .ref 42, .int fl, .int fa, .int fw, .int fr, .int rs, .int ac, .ref 43, .ref 44, .ref 45, .ref 46, .ref 47, .ref 48, .ref 49])), (39, .inl (false, 22, (bkF s)))]) _
  refine E_if_eq (tgt := 19) dX7_cover_11 (by decide) (fun c => (b2i_x1 h2 c).elim) (fun _ => ?_)
  refine E_iload_n dX7_cover_14 rfl ?_
  refine E_iload_n dX7_cover_15 rfl ?_
  refine E_icmp_ne (tgt := 21) dX7_cover_16 (by decide) (fun _ => ?_) (fun c => absurd c hne)
  refine E_iload_n dX7_cover_21 rfl ?_
  refine E_iconst (v := 0) dX7_cover_22 (by decide) ?_
  refine E_iconst (v := 1) dX7_cover_23 (by decide) ?_
  refine E_callS (As := [.int 1, .int 0, .int 1]) (l' := [.int 1, .int 0, .int 1]) (st := []) dX7_cover_24 kX7_48 sX7_in MX7_in rfl rfl (Nat.le_of_ble_eq_true rfl) (FC.use (c_in (d + 3) _ _ _) rfl (L2 := [(38, .inr (7, [.ref 39, .ref 40, .int bu, .int (nI q), .ref 41, .int (nI n), .ref 42, .int fl, .int fa, .int fw, .int fr, .int rs, .int ac, .ref 43, .ref 44, .ref 45, .ref 46, .ref 47, .ref 48, .ref 49])), (39, .inl (false, 22, (bkF s)))]) rfl) (Nat.le_of_ble_eq_true rfl) (fun _ _ hq9 => E_fgo ?_ hq9)
  show E _ _ 27 [.ref 38, .int (nI h), .int (nI g), .int 1, .null, .null, .null] [.int (b2i (inI 1 0 1))] (hov hp [(38, .inr (7, [.ref 39, .ref 40, .int bu, .int (nI q), .ref 41, .int (nI n), .ref 42, .int fl, .int fa, .int fw, .int fr, .int rs, .int ac, .ref 43, .ref 44, .ref 45, .ref 46, .ref 47, .ref 48, .ref 49])), (39, .inl (false, 22, (bkF s)))]) _
  refine E_if_ne (tgt := 33) dX7_cover_27 (by decide) (fun _ => ?_) (fun c => (b2i_x1 (by decide) c).elim)
  refine E_aload_n dX7_cover_33 rfl ?_
  refine E_get dX7_cover_34 fX7_7 (by decide) rfl rfl ?_
  refine E_iload_n dX7_cover_37 rfl ?_
  refine E_ialdN (j := h) dX7_cover_38 (by decide) rfl (by omega) (by decide) ?_
  refine E_eqi (y := she s h) (bk_h hh) ?_
  refine E_if_eq (tgt := 51) dX7_cover_39 (by decide) (fun c => absurd c ha) (fun _ => ?_)
  refine E_aload_n dX7_cover_42 rfl ?_
  refine E_get dX7_cover_43 fX7_7 (by decide) rfl rfl ?_
  refine E_iload_n dX7_cover_46 rfl ?_
  refine E_ialdN (j := g) dX7_cover_47 (by decide) rfl (by omega) (by decide) ?_
  refine E_eqi (y := she s g) (bk_h hg) ?_
  refine E_if_ne (tgt := 54) dX7_cover_48 (by decide) (fun _ => ?_) (fun c => absurd c hb)
  refine E_bipush (v := (-6)) dX7_cover_54 (by decide) ?_
  refine E_istore (l2 := [.ref 38, .int (nI h), .int (nI g), .int 1, .int (-6), .null, .null]) dX7_cover_56 (by decide) rfl ?_
  refine E_iconst (v := 0) dX7_cover_58 (by decide) ?_
  refine E_istore (l2 := [.ref 38, .int (nI h), .int (nI g), .int 1, .int (-6), .int 0, .null]) dX7_cover_59 (by decide) rfl ?_
  have L : ∀ i, i ≤ 64 → ∀ l6 : Value, E YX7_cover (d + 4) 61 [.ref 38, .int (nI h), .int (nI g), .int 1, .int ((fcN s h g i).1), .int (nI i), l6] [] (hov hp [(38, .inr (7, [.ref 39, .ref 40, .int bu, .int (nI q), .ref 41, .int (nI n), .ref 42, .int fl, .int fa, .int fw, .int fr, .int rs, .int ac, .ref 43, .ref 44, .ref 45, .ref 46, .ref 47, .ref 48, .ref 49])), (39, .inl (false, 22, (bkF s)))]) (fun v h' => v = some (.int (fcB s h g)) ∧ h' = hov hp [(38, .inr (7, [.ref 39, .ref 40, .int bu, .int (nI q), .ref 41, .int (nI n), .ref 42, .int fl, .int fa, .int fw, .int fr, .int rs, .int ac, .ref 43, .ref 44, .ref 45, .ref 46, .ref 47, .ref 48, .ref 49])), (39, .inl (false, 22, (bkF s)))]) := by
    refine down 64 ?_ ?_
    · intro l6
      refine E_iload dX7_cover_61 rfl ?_
      refine E_bipush (v := 64) dX7_cover_63 (by decide) ?_
      refine E_icmp_ge (tgt := 145) dX7_cover_65 (by decide) (fun _ => ?_) (fun c => absurd (by decide) c)
      refine E_iload dX7_cover_145 rfl ?_
      refine E_if_lt (tgt := 155) dX7_cover_147 (by decide) (fun c => absurd c (fcB_n hn).1) (fun _ => ?_)
      refine E_iload_n dX7_cover_150 rfl ?_
      refine E_iconst (v := 1) dX7_cover_151 (by decide) ?_
      refine E_icmp_ne (tgt := 160) dX7_cover_152 (by decide) (fun c => by first | exact absurd c (by decide) | exact absurd (by decide) c) (fun _ => ?_)
      refine E_iload dX7_cover_155 rfl ?_
      refine E_goto (tgt := 165) dX7_cover_157 (by decide) ?_
      exact E_iretf dX7_cover_165 rfl rfl rfl rfl
    · intro i hi ih l6
      refine E_iload dX7_cover_61 rfl ?_
      refine E_bipush (v := 64) dX7_cover_63 (by decide) ?_
      refine E_icmp_ge (tgt := 145) dX7_cover_65 (by decide) (fun c => absurd c (cI_nle (n := 64) rfl hi (by decide))) (fun _ => ?_)
      refine E_iload dX7_cover_68 rfl ?_
      refine E_iload_n dX7_cover_70 rfl ?_
      refine E_callS (As := [.int (nI i), .int (nI h)]) (l' := [.int (nI i), .int (nI h)]) (st := []) dX7_cover_71 kX7_80 sX7_has MX7_has rfl rfl (Nat.le_of_ble_eq_true rfl) (FC.use (c_has (d + 3) _ _) rfl (L2 := [(38, .inr (7, [.ref 39, .ref 40, .int bu, .int (nI q), .ref 41, .int (nI n), .ref 42, .int fl, .int fa, .int fw, .int fr, .int rs, .int ac, .ref 43, .ref 44, .ref 45, .ref 46, .ref 47, .ref 48, .ref 49])), (39, .inl (false, 22, (bkF s)))]) rfl) (Nat.le_of_ble_eq_true rfl) (fun _ _ hq9 => E_fgo ?_ hq9)
      show E _ _ 74 [.ref 38, .int (nI h), .int (nI g), .int 1, .int ((fcN s h g i).1), .int (nI i), l6] [.int (b2i (hbt (nI i) (nI h)))] (hov hp [(38, .inr (7, [.ref 39, .ref 40, .int bu, .int (nI q), .ref 41, .int (nI n), .ref 42, .int fl, .int fa, .int fw, .int fr, .int rs, .int ac, .ref 43, .ref 44, .ref 45, .ref 46, .ref 47, .ref 48, .ref 49])), (39, .inl (false, 22, (bkF s)))]) _
      refine E_if_ne (tgt := 108) dX7_cover_74 (by decide) (fun c74 => ?_) (fun c74 => ?_)
      · have c74 := b2i_n0 c74
        refine E_iconst (v := 0) dX7_cover_108 (by decide) ?_
        refine E_istore (l2 := [.ref 38, .int (nI h), .int (nI g), .int 1, .int ((fcN s h g i).1), .int (nI i), .int 0]) dX7_cover_109 (by decide) rfl ?_
        refine E_iload dX7_cover_111 rfl ?_
        refine E_if_eq (tgt := 135) dX7_cover_113 (by decide) (fun _ => ?_) (fun c => by first | exact absurd c (by decide) | exact absurd (by decide) c)
        refine E_iload dX7_cover_135 rfl ?_
        refine E_istore (l2 := [.ref 38, .int (nI h), .int (nI g), .int 1, .int ((fcN s h g i).1), .int (nI i), .int 0]) dX7_cover_137 (by decide) rfl ?_
        refine E_iinc (y := nI (i + 1)) (l2 := [.ref 38, .int (nI h), .int (nI g), .int 1, .int ((fcN s h g i).1), .int (nI (i + 1)), .int 0]) dX7_cover_139 rfl (nI_1 _) (by decide) rfl ?_
        refine E_goto (tgt := 61) dX7_cover_142 (by decide) ?_
        have e9 := ih (.int 0)
        rw [fcN_a (by rw [fcP_h hi hh hg, c74]; rfl)] at e9
        exact e9
      · have c74 := b2i_e0 c74
        refine E_iload dX7_cover_77 rfl ?_
        refine E_iload_n dX7_cover_79 rfl ?_
        refine E_callS (As := [.int (nI i), .int (nI g)]) (l' := [.int (nI i), .int (nI g)]) (st := []) dX7_cover_80 kX7_80 sX7_has MX7_has rfl rfl (Nat.le_of_ble_eq_true rfl) (FC.use (c_has (d + 3) _ _) rfl (L2 := [(38, .inr (7, [.ref 39, .ref 40, .int bu, .int (nI q), .ref 41, .int (nI n), .ref 42, .int fl, .int fa, .int fw, .int fr, .int rs, .int ac, .ref 43, .ref 44, .ref 45, .ref 46, .ref 47, .ref 48, .ref 49])), (39, .inl (false, 22, (bkF s)))]) rfl) (Nat.le_of_ble_eq_true rfl) (fun _ _ hq9 => E_fgo ?_ hq9)
        show E _ _ 83 [.ref 38, .int (nI h), .int (nI g), .int 1, .int ((fcN s h g i).1), .int (nI i), l6] [.int (b2i (hbt (nI i) (nI g)))] (hov hp [(38, .inr (7, [.ref 39, .ref 40, .int bu, .int (nI q), .ref 41, .int (nI n), .ref 42, .int fl, .int fa, .int fw, .int fr, .int rs, .int ac, .ref 43, .ref 44, .ref 45, .ref 46, .ref 47, .ref 48, .ref 49])), (39, .inl (false, 22, (bkF s)))]) _
        refine E_if_ne (tgt := 108) dX7_cover_83 (by decide) (fun c83 => ?_) (fun c83 => ?_)
        · have c83 := b2i_n0 c83
          refine E_iconst (v := 0) dX7_cover_108 (by decide) ?_
          refine E_istore (l2 := [.ref 38, .int (nI h), .int (nI g), .int 1, .int ((fcN s h g i).1), .int (nI i), .int 0]) dX7_cover_109 (by decide) rfl ?_
          refine E_iload dX7_cover_111 rfl ?_
          refine E_if_eq (tgt := 135) dX7_cover_113 (by decide) (fun _ => ?_) (fun c => by first | exact absurd c (by decide) | exact absurd (by decide) c)
          refine E_iload dX7_cover_135 rfl ?_
          refine E_istore (l2 := [.ref 38, .int (nI h), .int (nI g), .int 1, .int ((fcN s h g i).1), .int (nI i), .int 0]) dX7_cover_137 (by decide) rfl ?_
          refine E_iinc (y := nI (i + 1)) (l2 := [.ref 38, .int (nI h), .int (nI g), .int 1, .int ((fcN s h g i).1), .int (nI (i + 1)), .int 0]) dX7_cover_139 rfl (nI_1 _) (by decide) rfl ?_
          refine E_goto (tgt := 61) dX7_cover_142 (by decide) ?_
          have e9 := ih (.int 0)
          rw [fcN_a (by rw [fcP_h hi hh hg, c83, Bool.not_true, Bool.and_false])] at e9
          exact e9
        · have c83 := b2i_e0 c83
          refine E_iload dX7_cover_86 rfl ?_
          refine E_if_lt (tgt := 104) dX7_cover_88 (by decide) (fun c88 => ?_) (fun c88 => ?_)
          · refine E_iconst (v := 1) dX7_cover_104 (by decide) ?_
            refine E_goto (tgt := 109) dX7_cover_105 (by decide) ?_
            refine E_istore (l2 := [.ref 38, .int (nI h), .int (nI g), .int 1, .int ((fcN s h g i).1), .int (nI i), .int 1]) dX7_cover_109 (by decide) rfl ?_
            refine E_iload dX7_cover_111 rfl ?_
            refine E_if_eq (tgt := 135) dX7_cover_113 (by decide) (fun c => by first | exact absurd c (by decide) | exact absurd (by decide) c) (fun _ => ?_)
            refine E_aload_n dX7_cover_116 rfl ?_
            refine E_iload_n dX7_cover_117 rfl ?_
            refine E_iload dX7_cover_118 rfl ?_
            refine E_callV (As := [.int (nI h), .int (nI i)]) (l' := [.ref 38, .int (nI h), .int (nI i), .null, .null, .null, .null, .null]) (st := []) dX7_cover_120 kX7_123 iX7_chainOf vX7_chainOf (by decide) rfl rfl MX7_chainOf rfl rfl (Nat.le_of_ble_eq_true rfl) (FC.use (m_chainOf (d + 1) bu fl fa fw fr rs ac q n s hs h (by omega) (nI i)) rfl (L2 := [(38, .inr (7, [.ref 39, .ref 40, .int bu, .int (nI q), .ref 41, .int (nI n), .ref 42, .int fl, .int fa, .int fw, .int fr, .int rs, .int ac, .ref 43, .ref 44, .ref 45, .ref 46, .ref 47, .ref 48, .ref 49])), (39, .inl (false, 22, (bkF s)))]) rfl) (Nat.le_of_ble_eq_true rfl) (fun _ _ hq9 => E_fgo ?_ hq9)
            show E _ _ 123 [.ref 38, .int (nI h), .int (nI g), .int 1, .int ((fcN s h g i).1), .int (nI i), .int 1] [.int (flOut s (nI i) h 6)] (hov hp [(38, .inr (7, [.ref 39, .ref 40, .int bu, .int (nI q), .ref 41, .int (nI n), .ref 42, .int fl, .int fa, .int fw, .int fr, .int rs, .int ac, .ref 43, .ref 44, .ref 45, .ref 46, .ref 47, .ref 48, .ref 49])), (39, .inl (false, 22, (bkF s)))]) _
            refine E_iload_n dX7_cover_123 rfl ?_
            refine E_callS (As := [.int (flOut s (nI i) h 6), .int (nI g)]) (l' := [.int (flOut s (nI i) h 6), .int (nI g)]) (st := []) dX7_cover_124 kX7_80 sX7_has MX7_has rfl rfl (Nat.le_of_ble_eq_true rfl) (FC.use (c_has (d + 3) _ _) rfl (L2 := [(38, .inr (7, [.ref 39, .ref 40, .int bu, .int (nI q), .ref 41, .int (nI n), .ref 42, .int fl, .int fa, .int fw, .int fr, .int rs, .int ac, .ref 43, .ref 44, .ref 45, .ref 46, .ref 47, .ref 48, .ref 49])), (39, .inl (false, 22, (bkF s)))]) rfl) (Nat.le_of_ble_eq_true rfl) (fun _ _ hq9 => E_fgo ?_ hq9)
            show E _ _ 127 [.ref 38, .int (nI h), .int (nI g), .int 1, .int ((fcN s h g i).1), .int (nI i), .int 1] [.int (b2i (hbt (flOut s (nI i) h 6) (nI g)))] (hov hp [(38, .inr (7, [.ref 39, .ref 40, .int bu, .int (nI q), .ref 41, .int (nI n), .ref 42, .int fl, .int fa, .int fw, .int fr, .int rs, .int ac, .ref 43, .ref 44, .ref 45, .ref 46, .ref 47, .ref 48, .ref 49])), (39, .inl (false, 22, (bkF s)))]) _
            refine E_if_ne (tgt := 135) dX7_cover_127 (by decide) (fun c127 => ?_) (fun c127 => ?_)
            · have c127 := b2i_n0 c127
              refine E_iload dX7_cover_135 rfl ?_
              refine E_istore (l2 := [.ref 38, .int (nI h), .int (nI g), .int 1, .int ((fcN s h g i).1), .int (nI i), .int 1]) dX7_cover_137 (by decide) rfl ?_
              refine E_iinc (y := nI (i + 1)) (l2 := [.ref 38, .int (nI h), .int (nI g), .int 1, .int ((fcN s h g i).1), .int (nI (i + 1)), .int 1]) dX7_cover_139 rfl (nI_1 _) (by decide) rfl ?_
              refine E_goto (tgt := 61) dX7_cover_142 (by decide) ?_
              have e9 := ih (.int 1)
              rw [fcN_c c127] at e9
              exact e9
            · have c127 := b2i_e0 c127
              refine E_iload dX7_cover_130 rfl ?_
              refine E_goto (tgt := 137) dX7_cover_132 (by decide) ?_
              refine E_istore (l2 := [.ref 38, .int (nI h), .int (nI g), .int 1, .int (nI i), .int (nI i), .int 1]) dX7_cover_137 (by decide) rfl ?_
              refine E_iinc (y := nI (i + 1)) (l2 := [.ref 38, .int (nI h), .int (nI g), .int 1, .int (nI i), .int (nI (i + 1)), .int 1]) dX7_cover_139 rfl (nI_1 _) (by decide) rfl ?_
              refine E_goto (tgt := 61) dX7_cover_142 (by decide) ?_
              have e9 := ih (.int 1)
              rw [fcN_t (by rw [fcP_h hi hh hg, c74, c83]; rfl) (by rw [fc_neg (by omega) c88]; exact bc_k i hi) c127] at e9
              exact e9
          · refine E_iload dX7_cover_91 rfl ?_
            refine E_callS (As := [.int (nI i)]) (l' := [.int (nI i), .null, .null]) (st := []) dX7_cover_93 kX7_56 sX7_bits MX7_bits rfl rfl (Nat.le_of_ble_eq_true rfl) (FC.use (c_bits (d + 3) _) rfl (L2 := [(38, .inr (7, [.ref 39, .ref 40, .int bu, .int (nI q), .ref 41, .int (nI n), .ref 42, .int fl, .int fa, .int fw, .int fr, .int rs, .int ac, .ref 43, .ref 44, .ref 45, .ref 46, .ref 47, .ref 48, .ref 49])), (39, .inl (false, 22, (bkF s)))]) rfl) (Nat.le_of_ble_eq_true rfl) (fun _ _ hq9 => E_fgo ?_ hq9)
            show E _ _ 96 [.ref 38, .int (nI h), .int (nI g), .int 1, .int ((fcN s h g i).1), .int (nI i), l6] [.int (bitN (nI i) 8)] (hov hp [(38, .inr (7, [.ref 39, .ref 40, .int bu, .int (nI q), .ref 41, .int (nI n), .ref 42, .int fl, .int fa, .int fw, .int fr, .int rs, .int ac, .ref 43, .ref 44, .ref 45, .ref 46, .ref 47, .ref 48, .ref 49])), (39, .inl (false, 22, (bkF s)))]) _
            refine E_eqi (y := bcI (nI i)) (bits_bc i (by omega)) ?_
            refine E_iload dX7_cover_96 rfl ?_
            refine E_callS (As := [.int ((fcN s h g i).1)]) (l' := [.int ((fcN s h g i).1), .null, .null]) (st := [.int (bcI (nI i))]) dX7_cover_98 kX7_56 sX7_bits MX7_bits rfl rfl (Nat.le_of_ble_eq_true rfl) (FC.use (c_bits (d + 3) _) rfl (L2 := [(38, .inr (7, [.ref 39, .ref 40, .int bu, .int (nI q), .ref 41, .int (nI n), .ref 42, .int fl, .int fa, .int fw, .int fr, .int rs, .int ac, .ref 43, .ref 44, .ref 45, .ref 46, .ref 47, .ref 48, .ref 49])), (39, .inl (false, 22, (bkF s)))]) rfl) (Nat.le_of_ble_eq_true rfl) (fun _ _ hq9 => E_fgo ?_ hq9)
            show E _ _ 101 [.ref 38, .int (nI h), .int (nI g), .int 1, .int ((fcN s h g i).1), .int (nI i), l6] [.int (bitN ((fcN s h g i).1) 8), .int (bcI (nI i))] (hov hp [(38, .inr (7, [.ref 39, .ref 40, .int bu, .int (nI q), .ref 41, .int (nI n), .ref 42, .int fl, .int fa, .int fw, .int fr, .int rs, .int ac, .ref 43, .ref 44, .ref 45, .ref 46, .ref 47, .ref 48, .ref 49])), (39, .inl (false, 22, (bkF s)))]) _
            refine E_eqi (y := (fcN s h g i).2) (fc_pos (by omega) c88) ?_
            refine E_icmp_ge (tgt := 108) dX7_cover_101 (by decide) (fun c101 => ?_) (fun c101 => ?_)
            · rw [← Int32.not_lt] at c101
              refine E_iconst (v := 0) dX7_cover_108 (by decide) ?_
              refine E_istore (l2 := [.ref 38, .int (nI h), .int (nI g), .int 1, .int ((fcN s h g i).1), .int (nI i), .int 0]) dX7_cover_109 (by decide) rfl ?_
              refine E_iload dX7_cover_111 rfl ?_
              refine E_if_eq (tgt := 135) dX7_cover_113 (by decide) (fun _ => ?_) (fun c => by first | exact absurd c (by decide) | exact absurd (by decide) c)
              refine E_iload dX7_cover_135 rfl ?_
              refine E_istore (l2 := [.ref 38, .int (nI h), .int (nI g), .int 1, .int ((fcN s h g i).1), .int (nI i), .int 0]) dX7_cover_137 (by decide) rfl ?_
              refine E_iinc (y := nI (i + 1)) (l2 := [.ref 38, .int (nI h), .int (nI g), .int 1, .int ((fcN s h g i).1), .int (nI (i + 1)), .int 0]) dX7_cover_139 rfl (nI_1 _) (by decide) rfl ?_
              refine E_goto (tgt := 61) dX7_cover_142 (by decide) ?_
              have e9 := ih (.int 0)
              rw [fcN_b c101] at e9
              exact e9
            · rw [Int32.not_le] at c101
              refine E_iconst (v := 1) dX7_cover_104 (by decide) ?_
              refine E_goto (tgt := 109) dX7_cover_105 (by decide) ?_
              refine E_istore (l2 := [.ref 38, .int (nI h), .int (nI g), .int 1, .int ((fcN s h g i).1), .int (nI i), .int 1]) dX7_cover_109 (by decide) rfl ?_
              refine E_iload dX7_cover_111 rfl ?_
              refine E_if_eq (tgt := 135) dX7_cover_113 (by decide) (fun c => by first | exact absurd c (by decide) | exact absurd (by decide) c) (fun _ => ?_)
              refine E_aload_n dX7_cover_116 rfl ?_
              refine E_iload_n dX7_cover_117 rfl ?_
              refine E_iload dX7_cover_118 rfl ?_
              refine E_callV (As := [.int (nI h), .int (nI i)]) (l' := [.ref 38, .int (nI h), .int (nI i), .null, .null, .null, .null, .null]) (st := []) dX7_cover_120 kX7_123 iX7_chainOf vX7_chainOf (by decide) rfl rfl MX7_chainOf rfl rfl (Nat.le_of_ble_eq_true rfl) (FC.use (m_chainOf (d + 1) bu fl fa fw fr rs ac q n s hs h (by omega) (nI i)) rfl (L2 := [(38, .inr (7, [.ref 39, .ref 40, .int bu, .int (nI q), .ref 41, .int (nI n), .ref 42, .int fl, .int fa, .int fw, .int fr, .int rs, .int ac, .ref 43, .ref 44, .ref 45, .ref 46, .ref 47, .ref 48, .ref 49])), (39, .inl (false, 22, (bkF s)))]) rfl) (Nat.le_of_ble_eq_true rfl) (fun _ _ hq9 => E_fgo ?_ hq9)
              show E _ _ 123 [.ref 38, .int (nI h), .int (nI g), .int 1, .int ((fcN s h g i).1), .int (nI i), .int 1] [.int (flOut s (nI i) h 6)] (hov hp [(38, .inr (7, [.ref 39, .ref 40, .int bu, .int (nI q), .ref 41, .int (nI n), .ref 42, .int fl, .int fa, .int fw, .int fr, .int rs, .int ac, .ref 43, .ref 44, .ref 45, .ref 46, .ref 47, .ref 48, .ref 49])), (39, .inl (false, 22, (bkF s)))]) _
              refine E_iload_n dX7_cover_123 rfl ?_
              refine E_callS (As := [.int (flOut s (nI i) h 6), .int (nI g)]) (l' := [.int (flOut s (nI i) h 6), .int (nI g)]) (st := []) dX7_cover_124 kX7_80 sX7_has MX7_has rfl rfl (Nat.le_of_ble_eq_true rfl) (FC.use (c_has (d + 3) _ _) rfl (L2 := [(38, .inr (7, [.ref 39, .ref 40, .int bu, .int (nI q), .ref 41, .int (nI n), .ref 42, .int fl, .int fa, .int fw, .int fr, .int rs, .int ac, .ref 43, .ref 44, .ref 45, .ref 46, .ref 47, .ref 48, .ref 49])), (39, .inl (false, 22, (bkF s)))]) rfl) (Nat.le_of_ble_eq_true rfl) (fun _ _ hq9 => E_fgo ?_ hq9)
              show E _ _ 127 [.ref 38, .int (nI h), .int (nI g), .int 1, .int ((fcN s h g i).1), .int (nI i), .int 1] [.int (b2i (hbt (flOut s (nI i) h 6) (nI g)))] (hov hp [(38, .inr (7, [.ref 39, .ref 40, .int bu, .int (nI q), .ref 41, .int (nI n), .ref 42, .int fl, .int fa, .int fw, .int fr, .int rs, .int ac, .ref 43, .ref 44, .ref 45, .ref 46, .ref 47, .ref 48, .ref 49])), (39, .inl (false, 22, (bkF s)))]) _
              refine E_if_ne (tgt := 135) dX7_cover_127 (by decide) (fun c127 => ?_) (fun c127 => ?_)
              · have c127 := b2i_n0 c127
                refine E_iload dX7_cover_135 rfl ?_
                refine E_istore (l2 := [.ref 38, .int (nI h), .int (nI g), .int 1, .int ((fcN s h g i).1), .int (nI i), .int 1]) dX7_cover_137 (by decide) rfl ?_
                refine E_iinc (y := nI (i + 1)) (l2 := [.ref 38, .int (nI h), .int (nI g), .int 1, .int ((fcN s h g i).1), .int (nI (i + 1)), .int 1]) dX7_cover_139 rfl (nI_1 _) (by decide) rfl ?_
                refine E_goto (tgt := 61) dX7_cover_142 (by decide) ?_
                have e9 := ih (.int 1)
                rw [fcN_c c127] at e9
                exact e9
              · have c127 := b2i_e0 c127
                refine E_iload dX7_cover_130 rfl ?_
                refine E_goto (tgt := 137) dX7_cover_132 (by decide) ?_
                refine E_istore (l2 := [.ref 38, .int (nI h), .int (nI g), .int 1, .int (nI i), .int (nI i), .int 1]) dX7_cover_137 (by decide) rfl ?_
                refine E_iinc (y := nI (i + 1)) (l2 := [.ref 38, .int (nI h), .int (nI g), .int 1, .int (nI i), .int (nI (i + 1)), .int 1]) dX7_cover_139 rfl (nI_1 _) (by decide) rfl ?_
                refine E_goto (tgt := 61) dX7_cover_142 (by decide) ?_
                have e9 := ih (.int 1)
                rw [fcN_t (by rw [fcP_h hi hh hg, c74, c83]; rfl) c101 c127] at e9
                exact e9
  exact L 0 (by decide) _
