/-! DUE: digits, a sorted row, sums -/
def rn : Nat → Int32 → (Nat → Int32) → Bool × (Nat → Int32)
  | 0, x, f => (decide (x = 0), f)
  | m + 1, x, f => if rmI x 10 ≤ 0 then (false, f) else rn m (x / 10) (upd f m (rmI x 10))
def rd : Nat → Int64 → (Nat → Int32) → Bool × (Nat → Int32)
  | 0, x, f => (decide (x = 0), f)
  | m + 1, x, f => rd m (x / 100) (upd f m (Int64.toInt32 (rmL x 100)))
/-- σ is a row of the places below i, rising by dv -/
def Srt (dv σ : Nat → Nat) (i : Nat) : Prop := (∀ j, j < i → σ j < i) ∧ (∀ j k, j < i → k < i → σ j = σ k → j = k) ∧ (∀ j k, j < k → k < i → dv (σ j) ≤ dv (σ k))
def sIns (σ : Nat → Nat) (p i : Nat) : Nat → Nat := fun j => if j < p then σ j else if j = p then i else σ (j - 1)
theorem Srt_ins {dv σ : Nat → Nat} {i p : Nat} (h : Srt dv σ i) (hp : p ≤ i) (h1 : ∀ j, p ≤ j → j < i → dv i < dv (σ j)) (h2 : 0 < p → dv (σ (p - 1)) ≤ dv i) : Srt dv (sIns σ p i) (i + 1) := by
  obtain ⟨a, b, c⟩ := h
  have lo : ∀ j, j < p → dv (σ j) ≤ dv i := fun j hj => by
    by_cases e : j = p - 1
    · subst e; exact h2 (by omega)
    · exact Nat.le_trans (c j (p - 1) (by omega) (by omega)) (h2 (by omega))
  refine ⟨fun j hj => ?_, fun j k hj hk e => ?_, fun j k hjk hk => ?_⟩
  · simp only [sIns]
    by_cases e1 : j < p
    · rw [if_pos e1]; have := a j (by omega); omega
    · rw [if_neg e1]
      by_cases e2 : j = p
      · rw [if_pos e2]; omega
      · rw [if_neg e2]; have := a (j - 1) (by omega); omega
  · simp only [sIns] at e
    by_cases j1 : j < p
    · rw [if_pos j1] at e
      by_cases k1 : k < p
      · rw [if_pos k1] at e; exact b j k (by omega) (by omega) e
      · rw [if_neg k1] at e
        by_cases k2 : k = p
        · rw [if_pos k2] at e; have := a j (by omega); omega
        · rw [if_neg k2] at e; have := b j (k - 1) (by omega) (by omega) e; omega
    · rw [if_neg j1] at e
      by_cases j2 : j = p
      · rw [if_pos j2] at e
        by_cases k1 : k < p
        · rw [if_pos k1] at e; have := a k (by omega); omega
        · rw [if_neg k1] at e
          by_cases k2 : k = p
          · omega
          · rw [if_neg k2] at e; have := a (k - 1) (by omega); omega
      · rw [if_neg j2] at e
        by_cases k1 : k < p
        · rw [if_pos k1] at e; have := b (j - 1) k (by omega) (by omega) e; omega
        · rw [if_neg k1] at e
          by_cases k2 : k = p
          · rw [if_pos k2] at e; have := a (j - 1) (by omega); omega
          · rw [if_neg k2] at e; have := b (j - 1) (k - 1) (by omega) (by omega) e; omega
  · simp only [sIns]
    by_cases j1 : j < p
    · rw [if_pos j1]
      by_cases k1 : k < p
      · rw [if_pos k1]; exact c j k hjk (by omega)
      · rw [if_neg k1]
        by_cases k2 : k = p
        · rw [if_pos k2]; exact lo j j1
        · rw [if_neg k2]; exact c j (k - 1) (by omega) (by omega)
    · rw [if_neg j1]
      by_cases j2 : j = p
      · rw [if_pos j2, if_neg (by omega), if_neg (by omega)]
        exact Nat.le_of_lt (h1 (k - 1) (by omega) (by omega))
      · rw [if_neg j2, if_neg (by omega), if_neg (by omega)]
        exact c (j - 1) (k - 1) (by omega) (by omega)
def cumS (nv σ : Nat → Nat) (x : Int32) : Nat → Nat
  | 0 => 0
  | i + 1 => cumS nv σ x i + (bif hbt x (nI (σ i)) then nv (σ i) else 0)
def aiP (nv dv σ : Nat → Nat) (x : Int32) (i : Nat) : Bool := !hbt x (nI (σ i)) || decide (cumS nv σ x (i + 1) ≤ dv (σ i))
theorem cumS_le {nv σ : Nat → Nat} {x : Int32} {n : Nat} (h : ∀ j, j < n → nv (σ j) ≤ 9) : ∀ i, i ≤ n → cumS nv σ x i ≤ 9 * i
  | 0, _ => Nat.le_refl _
  | i + 1, hi => by
    have h1 := cumS_le (x := x) h i (by omega)
    have h2 := h i (by omega)
    rw [cumS]
    cases hbt x (nI (σ i)) <;> simp <;> omega
theorem cumS_t {nv σ : Nat → Nat} {x : Int32} {i : Nat} (h : hbt x (nI (σ i)) = true) : cumS nv σ x (i + 1) = cumS nv σ x i + nv (σ i) := by rw [cumS, h]; rfl
theorem cumS_f {nv σ : Nat → Nat} {x : Int32} {i : Nat} (h : hbt x (nI (σ i)) = false) : cumS nv σ x (i + 1) = cumS nv σ x i := by rw [cumS, h]; rfl
/-- the most in time, over the sets 1 .. c, by a test of sets -/
def mit (ok : Int32 → Bool) : Nat → Int32
  | 0 => 0
  | c + 1 => bif decide (bcI (mit ok c) < bcI (nI (c + 1))) && ok (nI (c + 1)) then nI (c + 1) else mit ok c
theorem mit_t {ok : Int32 → Bool} {c : Nat} (h1 : bcI (mit ok c) < bcI (nI (c + 1))) (h2 : ok (nI (c + 1)) = true) : mit ok (c + 1) = nI (c + 1) := by rw [mit, decide_eq_true h1, h2]; rfl
theorem mit_a {ok : Int32 → Bool} {c : Nat} (h1 : ¬ bcI (mit ok c) < bcI (nI (c + 1))) : mit ok (c + 1) = mit ok c := by rw [mit, decide_eq_false h1]; rfl
theorem mit_b {ok : Int32 → Bool} {c : Nat} (h2 : ok (nI (c + 1)) = false) : mit ok (c + 1) = mit ok c := by rw [mit, h2]; cases decide (bcI (mit ok c) < bcI (nI (c + 1))) <;> rfl
theorem shl8 : ∀ n, n < 9 → (1 : Int32) <<< (nI n &&& 31) = nI (2 ^ n) := by decide
theorem m1_add (m : Nat) : nI (m + 1) - 1 + Int32.ofInt (-1) = nI m - 1 := by
  rw [nI_pred, show Int32.ofInt (-1) = -1 from by decide, Int32.sub_eq_add_neg]
theorem upd_ne {f : Nat → Int32} {k j : Nat} {x : Int32} (h : ¬ j = k) : upd f k x j = f j := by simp only [upd]; rw [if_neg h]
theorem upd_eq {f : Nat → Int32} {k : Nat} {x : Int32} : upd f k x k = x := by simp [upd]

set_option maxHeartbeats 4000000 in
set_option maxRecDepth 20000 in
theorem c_readNights (d : Nat) (dn : Nat → Int32) (x : Int32) (n : Nat) (hn : n ≤ 8) : FC YX1_readNights d [.ref 31, .int x, .int (nI n), .null, .null, .null] [(31, .inr (1, [.ref 32, .ref 33, .ref 34])), (32, .inl (false, 8, dn))] (some (.int (b2i ((rn n x dn).1)))) [(31, .inr (1, [.ref 32, .ref 33, .ref 34])), (32, .inl (false, 8, (rn n x dn).2))] := by
  intro hp
  refine E_iload_n dX1_readNights_0 rfl ?_
  refine E_istore_n (l2 := [.ref 31, .int x, .int (nI n), .int x, .null, .null]) dX1_readNights_1 rfl (by decide) rfl ?_
  refine E_iload_n dX1_readNights_2 rfl ?_
  refine E_iconst (v := 1) dX1_readNights_3 (by decide) ?_
  refine E_isub dX1_readNights_4 ?_
  refine E_istore (l2 := [.ref 31, .int x, .int (nI n), .int x, .int ((nI n) - 1), .null]) dX1_readNights_5 (by decide) rfl ?_
  have L : ∀ (m : Nat) (y : Int32) (f : Nat → Int32) (l5 : Value), m ≤ 8 → rn m y f = (rn n x dn) → E YX1_readNights d 7 [.ref 31, .int x, .int (nI n), .int y, .int (nI m - 1), l5] [] (hov hp [(31, .inr (1, [.ref 32, .ref 33, .ref 34])), (32, .inl (false, 8, f))]) (fun v h' => v = some (.int (b2i ((rn n x dn).1))) ∧ h' = hov hp [(31, .inr (1, [.ref 32, .ref 33, .ref 34])), (32, .inl (false, 8, (rn n x dn).2))]) := by
    intro m
    induction m with
    | zero =>
      intro y f l5 hm he
      refine E_iload dX1_readNights_7 rfl ?_
      refine E_if_lt (tgt := 52) dX1_readNights_9 (by decide) (fun _ => ?_) (fun c => absurd (by decide) c)
      refine E_iload_n dX1_readNights_52 rfl ?_
      refine E_if_ne (tgt := 60) dX1_readNights_53 (by decide) (fun c53 => ?_) (fun c53 => ?_)
      · refine E_iconst (v := 0) dX1_readNights_60 (by decide) ?_
        exact E_iretf dX1_readNights_61 rfl (b2i_nar _) (by rw [← he]; simp [rn, b2i, c53]) (by rw [← he]; rfl)
      · refine E_iconst (v := 1) dX1_readNights_56 (by decide) ?_
        refine E_goto (tgt := 61) dX1_readNights_57 (by decide) ?_
        exact E_iretf dX1_readNights_61 rfl (b2i_nar _) (by rw [← he]; simp [rn, b2i, c53]) (by rw [← he]; rfl)
    | succ m ih =>
      intro y f l5 hm he
      refine E_iload dX1_readNights_7 rfl ?_
      refine E_eqi (y := nI m) (nI_pred m) ?_
      refine E_if_lt (tgt := 52) dX1_readNights_9 (by decide) (fun c => absurd c (nI_pos (by omega))) (fun _ => ?_)
      refine E_iload dX1_readNights_12 rfl ?_
      refine E_eqi (y := nI m) (nI_pred m) ?_
      refine E_bipush (v := 8) dX1_readNights_14 (by decide) ?_
      refine E_icmp_ge (tgt := 52) dX1_readNights_16 (by decide) (fun c => absurd c (cI_nle (n := 8) rfl (by omega) (by decide))) (fun _ => ?_)
      refine E_iload_n dX1_readNights_19 rfl ?_
      refine E_bipush (v := 10) dX1_readNights_20 (by decide) ?_
      refine E_irem dX1_readNights_22 (by decide) ?_
      refine E_istore (l2 := [.ref 31, .int x, .int (nI n), .int y, .int (nI (m + 1) - 1), .int (rmI y 10)]) dX1_readNights_23 (by decide) rfl ?_
      refine E_iload dX1_readNights_25 rfl ?_
      refine E_if_gt (tgt := 32) dX1_readNights_27 (by decide) (fun c27 => ?_) (fun c27 => ?_)
      · rw [← Int32.not_le] at c27
        refine E_aload_n dX1_readNights_32 rfl ?_
        refine E_get dX1_readNights_33 fX1_9 (by decide) rfl rfl ?_
        refine E_iload dX1_readNights_36 rfl ?_
        refine E_eqi (y := nI m) (nI_pred m) ?_
        refine E_iload dX1_readNights_38 rfl ?_
        refine E_iastN (j := m) (f2 := upd f m (rmI y 10)) (L2 := [(31, .inr (1, [.ref 32, .ref 33, .ref 34])), (32, .inl (false, 8, (upd f m (rmI y 10))))]) dX1_readNights_40 (by decide) rfl (by omega) (by decide) rfl rfl ?_
        refine E_iload_n dX1_readNights_41 rfl ?_
        refine E_bipush (v := 10) dX1_readNights_42 (by decide) ?_
        refine E_idiv dX1_readNights_44 (by decide) ?_
        refine E_istore_n (l2 := [.ref 31, .int x, .int (nI n), .int (y / 10), .int (nI (m + 1) - 1), .int (rmI y 10)]) dX1_readNights_45 rfl (by decide) rfl ?_
        refine E_iinc (y := nI m - 1) (l2 := [.ref 31, .int x, .int (nI n), .int (y / 10), .int (nI m - 1), .int (rmI y 10)]) dX1_readNights_46 rfl (m1_add m) (by decide) rfl ?_
        refine E_goto (tgt := 7) dX1_readNights_49 (by decide) ?_
        exact ih _ _ _ (by omega) (by rw [← he, rn, if_neg c27])
      · rw [Int32.not_lt] at c27
        refine E_iconst (v := 0) dX1_readNights_30 (by decide) ?_
        exact E_iretf dX1_readNights_31 rfl (b2i_nar _) (by rw [← he, rn, if_pos c27]; rfl) (by rw [← he, rn, if_pos c27])
  exact L n x dn _ hn rfl

set_option maxHeartbeats 4000000 in
set_option maxRecDepth 20000 in
theorem c_readDays_neg (d : Nat) (dd : Nat → Int32) (z : Int64) (n : Nat) (hz : ¬ 0 ≤ z) : FC YX1_readDays d [.ref 31, .long z, .null, .int (nI n), .null, .null, .null] [(31, .inr (1, [.ref 32, .ref 33, .ref 34])), (33, .inl (false, 8, dd))] (some (.int (b2i false))) [(31, .inr (1, [.ref 32, .ref 33, .ref 34])), (33, .inl (false, 8, dd))] := by
  intro hp
  refine E_lload_n dX1_readDays_0 rfl ?_
  refine E_lconst (v := 0) dX1_readDays_1 (by decide) ?_
  refine E_lcmp dX1_readDays_2 ?_
  refine E_if_ge (tgt := 8) dX1_readDays_3 (by decide) (fun c => absurd ((lg_cmp_ge _ _).mp c) hz) (fun _ => ?_)
  refine E_iconst (v := 0) dX1_readDays_6 (by decide) ?_
  exact E_iretf dX1_readDays_7 rfl (b2i_nar _) rfl rfl

set_option maxHeartbeats 4000000 in
set_option maxRecDepth 20000 in
theorem c_readDays (d : Nat) (dd : Nat → Int32) (z : Int64) (hz : 0 ≤ z) (n : Nat) (hn : n ≤ 8) : FC YX1_readDays d [.ref 31, .long z, .null, .int (nI n), .null, .null, .null] [(31, .inr (1, [.ref 32, .ref 33, .ref 34])), (33, .inl (false, 8, dd))] (some (.int (b2i ((rd n z dd).1)))) [(31, .inr (1, [.ref 32, .ref 33, .ref 34])), (33, .inl (false, 8, (rd n z dd).2))] := by
  intro hp
  refine E_lload_n dX1_readDays_0 rfl ?_
  refine E_lconst (v := 0) dX1_readDays_1 (by decide) ?_
  refine E_lcmp dX1_readDays_2 ?_
  refine E_if_ge (tgt := 8) dX1_readDays_3 (by decide) (fun _ => ?_) (fun c => absurd ((lg_cmp_ge _ _).mpr hz) c)
  refine E_lload_n dX1_readDays_8 rfl ?_
  refine E_lstore (l2 := [.ref 31, .long z, .null, .int (nI n), .long z, .null, .null]) dX1_readDays_9 (by decide) rfl ?_
  refine E_iload_n dX1_readDays_11 rfl ?_
  refine E_iconst (v := 1) dX1_readDays_12 (by decide) ?_
  refine E_isub dX1_readDays_13 ?_
  refine E_istore (l2 := [.ref 31, .long z, .null, .int (nI n), .long z, .null, .int ((nI n) - 1)]) dX1_readDays_14 (by decide) rfl ?_
  have L : ∀ (m : Nat) (y : Int64) (f : Nat → Int32), m ≤ 8 → rd m y f = (rd n z dd) → E YX1_readDays d 16 [.ref 31, .long z, .null, .int (nI n), .long y, .null, .int (nI m - 1)] [] (hov hp [(31, .inr (1, [.ref 32, .ref 33, .ref 34])), (33, .inl (false, 8, f))]) (fun v h' => v = some (.int (b2i ((rd n z dd).1))) ∧ h' = hov hp [(31, .inr (1, [.ref 32, .ref 33, .ref 34])), (33, .inl (false, 8, (rd n z dd).2))]) := by
    intro m
    induction m with
    | zero =>
      intro y f hm he
      refine E_iload dX1_readDays_16 rfl ?_
      refine E_if_lt (tgt := 56) dX1_readDays_18 (by decide) (fun _ => ?_) (fun c => absurd (by decide) c)
      refine E_lload dX1_readDays_56 rfl ?_
      refine E_lconst (v := 0) dX1_readDays_58 (by decide) ?_
      refine E_lcmp dX1_readDays_59 ?_
      refine E_if_ne (tgt := 67) dX1_readDays_60 (by decide) (fun c60 => ?_) (fun c60 => ?_)
      · rw [lg_cmp_eq] at c60
        refine E_iconst (v := 0) dX1_readDays_67 (by decide) ?_
        exact E_iretf dX1_readDays_68 rfl (b2i_nar _) (by rw [← he]; simp [rd, b2i, c60]) (by rw [← he]; rfl)
      · rw [lg_cmp_eq] at c60
        refine E_iconst (v := 1) dX1_readDays_63 (by decide) ?_
        refine E_goto (tgt := 68) dX1_readDays_64 (by decide) ?_
        exact E_iretf dX1_readDays_68 rfl (b2i_nar _) (by rw [← he]; simp [rd, b2i, c60]) (by rw [← he]; rfl)
    | succ m ih =>
      intro y f hm he
      refine E_iload dX1_readDays_16 rfl ?_
      refine E_eqi (y := nI m) (nI_pred m) ?_
      refine E_if_lt (tgt := 56) dX1_readDays_18 (by decide) (fun c => absurd c (nI_pos (by omega))) (fun _ => ?_)
      refine E_iload dX1_readDays_21 rfl ?_
      refine E_eqi (y := nI m) (nI_pred m) ?_
      refine E_bipush (v := 8) dX1_readDays_23 (by decide) ?_
      refine E_icmp_ge (tgt := 56) dX1_readDays_25 (by decide) (fun c => absurd c (cI_nle (n := 8) rfl (by omega) (by decide))) (fun _ => ?_)
      refine E_aload_n dX1_readDays_28 rfl ?_
      refine E_get dX1_readDays_29 fX1_15 (by decide) rfl rfl ?_
      refine E_iload dX1_readDays_32 rfl ?_
      refine E_eqi (y := nI m) (nI_pred m) ?_
      refine E_lload dX1_readDays_34 rfl ?_
      refine E_ldc2 dX1_readDays_36 qX1_21 ?_
      refine E_lrem dX1_readDays_39 (by decide) ?_
      refine E_l2i dX1_readDays_40 ?_
      refine E_iastN (j := m) (f2 := upd f m (Int64.toInt32 (rmL y 100))) (L2 := [(31, .inr (1, [.ref 32, .ref 33, .ref 34])), (33, .inl (false, 8, (upd f m (Int64.toInt32 (rmL y 100)))))]) dX1_readDays_41 (by decide) rfl (by omega) (by decide) rfl rfl ?_
      refine E_lload dX1_readDays_42 rfl ?_
      refine E_ldc2 dX1_readDays_44 qX1_21 ?_
      refine E_ldiv dX1_readDays_47 (by decide) ?_
      refine E_lstore (l2 := [.ref 31, .long z, .null, .int (nI n), .long (y / 100), .null, .int (nI (m + 1) - 1)]) dX1_readDays_48 (by decide) rfl ?_
      refine E_iinc (y := nI m - 1) (l2 := [.ref 31, .long z, .null, .int (nI n), .long (y / 100), .null, .int (nI m - 1)]) dX1_readDays_50 rfl (m1_add m) (by decide) rfl ?_
      refine E_goto (tgt := 16) dX1_readDays_53 (by decide) ?_
      exact ih _ _ (by omega) (by rw [← he, rd])
  exact L n z dd hn rfl

set_option maxHeartbeats 4000000 in
set_option maxRecDepth 20000 in
theorem c_sort (d : Nat) (n : Nat) (hn : n ≤ 8) (dd db : Nat → Int32) (dv : Nat → Nat) (hdd : ∀ j, j < n → dd j = nI (dv j) ∧ dv j ≤ 99) : FR YX1_sortByDay d [.ref 31, .int (nI n), .null, .null] [(31, .inr (1, [.ref 32, .ref 33, .ref 34])), (33, .inl (false, 8, dd)), (34, .inl (false, 8, db))] (fun v M => v = none ∧ ∃ g : Nat → Int32, M = [(31, .inr (1, [.ref 32, .ref 33, .ref 34])), (33, .inl (false, 8, dd)), (34, .inl (false, 8, g))] ∧ (∀ j, 8 ≤ j → g j = db j) ∧ ∃ σ : Nat → Nat, Srt dv σ n ∧ ∀ j, j < n → g j = nI (σ j)) := by
  intro hp
  refine E_iconst (v := 0) dX1_sortByDay_0 (by decide) ?_
  refine E_istore_n (l2 := [.ref 31, .int (nI n), .int 0, .null]) dX1_sortByDay_1 rfl (by decide) rfl ?_
  have LO : ∀ i, i ≤ n → ∀ (g : Nat → Int32) (σ : Nat → Nat) (l3 : Value), (∀ j, 8 ≤ j → g j = db j) → Srt dv σ i → (∀ j, j < i → g j = nI (σ j)) → E YX1_sortByDay d 2 [.ref 31, .int (nI n), .int (nI i), l3] [] (hov hp [(31, .inr (1, [.ref 32, .ref 33, .ref 34])), (33, .inl (false, 8, dd)), (34, .inl (false, 8, g))]) (fun v h' => ∃ M, h' = hov hp M ∧ (fun v M => v = none ∧ ∃ g : Nat → Int32, M = [(31, .inr (1, [.ref 32, .ref 33, .ref 34])), (33, .inl (false, 8, dd)), (34, .inl (false, 8, g))] ∧ (∀ j, 8 ≤ j → g j = db j) ∧ ∃ σ : Nat → Nat, Srt dv σ n ∧ ∀ j, j < n → g j = nI (σ j)) v M) := by
    refine down n ?_ ?_
    · intro g σ l3 hg hs hgs
      refine E_iload_n dX1_sortByDay_2 rfl ?_
      refine E_iload_n dX1_sortByDay_3 rfl ?_
      refine E_icmp_ge (tgt := 74) dX1_sortByDay_4 (by decide) (fun _ => ?_) (fun c => absurd (nI_le (Nat.le_refl _) (by omega)) c)
      exact E_vret (st := []) dX1_sortByDay_74 rfl ⟨_, rfl, rfl, g, rfl, hg, σ, hs, hgs⟩
    · intro i hi ih g σ l3 hg hs hgs
      refine E_iload_n dX1_sortByDay_2 rfl ?_
      refine E_iload_n dX1_sortByDay_3 rfl ?_
      refine E_icmp_ge (tgt := 74) dX1_sortByDay_4 (by decide) (fun c => absurd c (nI_ge hi (by omega))) (fun _ => ?_)
      refine E_iload_n dX1_sortByDay_7 rfl ?_
      refine E_bipush (v := 8) dX1_sortByDay_8 (by decide) ?_
      refine E_icmp_ge (tgt := 74) dX1_sortByDay_10 (by decide) (fun c => absurd c (cI_nle (n := 8) rfl (by omega) (by decide))) (fun _ => ?_)
      refine E_iload_n dX1_sortByDay_13 rfl ?_
      refine E_istore_n (l2 := [.ref 31, .int (nI n), .int (nI i), .int (nI i)]) dX1_sortByDay_14 rfl (by decide) rfl ?_
      have LI : ∀ p, p ≤ i → ∀ g : Nat → Int32, (∀ j, 8 ≤ j → g j = db j) → (∀ j, j < p → g j = nI (σ j)) → (∀ j, p < j → j ≤ i → g j = nI (σ (j - 1))) → (∀ j, p ≤ j → j < i → dv i < dv (σ j)) → E YX1_sortByDay d 15 [.ref 31, .int (nI n), .int (nI i), .int (nI p)] [] (hov hp [(31, .inr (1, [.ref 32, .ref 33, .ref 34])), (33, .inl (false, 8, dd)), (34, .inl (false, 8, g))]) (fun v h' => ∃ M, h' = hov hp M ∧ (fun v M => v = none ∧ ∃ g : Nat → Int32, M = [(31, .inr (1, [.ref 32, .ref 33, .ref 34])), (33, .inl (false, 8, dd)), (34, .inl (false, 8, g))] ∧ (∀ j, 8 ≤ j → g j = db j) ∧ ∃ σ : Nat → Nat, Srt dv σ n ∧ ∀ j, j < n → g j = nI (σ j)) v M) := by
        intro p
        induction p with
        | zero =>
          intro hp0 g hg h1 h2 h3
          refine E_iload_n dX1_sortByDay_15 rfl ?_
          refine E_if_le (tgt := 61) dX1_sortByDay_16 (by decide) (fun _ => ?_) (fun c => absurd (by decide) c)
          refine E_aload_n dX1_sortByDay_61 rfl ?_
          refine E_get dX1_sortByDay_62 fX1_18 (by decide) rfl rfl ?_
          refine E_iload_n dX1_sortByDay_65 rfl ?_
          refine E_iload_n dX1_sortByDay_66 rfl ?_
          refine E_iastN (j := 0) (f2 := upd g 0 (nI i)) (L2 := [(31, .inr (1, [.ref 32, .ref 33, .ref 34])), (33, .inl (false, 8, dd)), (34, .inl (false, 8, (upd g 0 (nI i))))]) dX1_sortByDay_67 (by decide) rfl (by omega) (by decide) rfl rfl ?_
          refine E_iinc (y := nI (i + 1)) (l2 := [.ref 31, .int (nI n), .int (nI (i + 1)), .int (nI 0)]) dX1_sortByDay_68 rfl (nI_1 _) (by decide) rfl ?_
          refine E_goto (tgt := 2) dX1_sortByDay_71 (by decide) ?_
          exact ih (upd g 0 (nI i)) (sIns σ 0 i) (.int (nI 0)) (fun j hj => by rw [upd_ne (by omega)]; exact hg j hj) (Srt_ins hs (by omega) h3 (fun h => absurd h (by omega))) (fun j hj => by
              simp only [upd, sIns]
              by_cases e1 : j < 0
              · rw [if_neg (by omega), if_pos e1]; exact h1 j e1
              · by_cases e2 : j = 0
                · rw [if_pos e2, if_neg e1, if_pos e2]
                · rw [if_neg e2, if_neg e1, if_neg e2]; exact h2 j (by omega) (by omega))
        | succ p ihp =>
          intro hp0 g hg h1 h2 h3
          have hsp := hs.1 p (by omega)
          refine E_iload_n dX1_sortByDay_15 rfl ?_
          refine E_if_le (tgt := 61) dX1_sortByDay_16 (by decide) (fun c => absurd c (nI_nle (by omega) (by omega))) (fun _ => ?_)
          refine E_aload_n dX1_sortByDay_19 rfl ?_
          refine E_get dX1_sortByDay_20 fX1_15 (by decide) rfl rfl ?_
          refine E_aload_n dX1_sortByDay_23 rfl ?_
          refine E_get dX1_sortByDay_24 fX1_18 (by decide) rfl rfl ?_
          refine E_iload_n dX1_sortByDay_27 rfl ?_
          refine E_iconst (v := 1) dX1_sortByDay_28 (by decide) ?_
          refine E_isub dX1_sortByDay_29 ?_
          refine E_eqi (y := nI p) (nI_pred p) ?_
          refine E_ialdN (j := p) dX1_sortByDay_30 (by decide) rfl (by omega) (by decide) ?_
          refine E_eqi (y := nI (σ p)) (h1 p (by omega)) ?_
          refine E_ialdN (j := σ p) dX1_sortByDay_31 (by decide) rfl (by omega) (by decide) ?_
          refine E_eqi (y := nI (dv (σ p))) ((hdd _ (by omega)).1) ?_
          refine E_aload_n dX1_sortByDay_32 rfl ?_
          refine E_get dX1_sortByDay_33 fX1_15 (by decide) rfl rfl ?_
          refine E_iload_n dX1_sortByDay_36 rfl ?_
          refine E_ialdN (j := i) dX1_sortByDay_37 (by decide) rfl (by omega) (by decide) ?_
          refine E_eqi (y := nI (dv i)) ((hdd _ (by omega)).1) ?_
          refine E_icmp_le (tgt := 61) dX1_sortByDay_38 (by decide) (fun c38 => ?_) (fun c38 => ?_)
          · have c38 : dv (σ p) ≤ dv i := (nI_leI (by have := (hdd (σ p) (by omega)).2; omega) (by have := (hdd i (by omega)).2; omega)).mp c38
            refine E_aload_n dX1_sortByDay_61 rfl ?_
            refine E_get dX1_sortByDay_62 fX1_18 (by decide) rfl rfl ?_
            refine E_iload_n dX1_sortByDay_65 rfl ?_
            refine E_iload_n dX1_sortByDay_66 rfl ?_
            refine E_iastN (j := p + 1) (f2 := upd g (p + 1) (nI i)) (L2 := [(31, .inr (1, [.ref 32, .ref 33, .ref 34])), (33, .inl (false, 8, dd)), (34, .inl (false, 8, (upd g (p + 1) (nI i))))]) dX1_sortByDay_67 (by decide) rfl (by omega) (by decide) rfl rfl ?_
            refine E_iinc (y := nI (i + 1)) (l2 := [.ref 31, .int (nI n), .int (nI (i + 1)), .int (nI (p + 1))]) dX1_sortByDay_68 rfl (nI_1 _) (by decide) rfl ?_
            refine E_goto (tgt := 2) dX1_sortByDay_71 (by decide) ?_
            exact ih (upd g (p + 1) (nI i)) (sIns σ (p + 1) i) (.int (nI (p + 1))) (fun j hj => by rw [upd_ne (by omega)]; exact hg j hj) (Srt_ins hs (by omega) h3 (fun _ => c38)) (fun j hj => by
                simp only [upd, sIns]
                by_cases e1 : j < (p + 1)
                · rw [if_neg (by omega), if_pos e1]; exact h1 j e1
                · by_cases e2 : j = (p + 1)
                  · rw [if_pos e2, if_neg e1, if_pos e2]
                  · rw [if_neg e2, if_neg e1, if_neg e2]; exact h2 j (by omega) (by omega))
          · have c38 : ¬ dv (σ p) ≤ dv i := fun h => c38 (nI_le h (by have := (hdd i (by omega)).2; omega))
            refine E_aload_n dX1_sortByDay_41 rfl ?_
            refine E_get dX1_sortByDay_42 fX1_18 (by decide) rfl rfl ?_
            refine E_iload_n dX1_sortByDay_45 rfl ?_
            refine E_aload_n dX1_sortByDay_46 rfl ?_
            refine E_get dX1_sortByDay_47 fX1_18 (by decide) rfl rfl ?_
            refine E_iload_n dX1_sortByDay_50 rfl ?_
            refine E_iconst (v := 1) dX1_sortByDay_51 (by decide) ?_
            refine E_isub dX1_sortByDay_52 ?_
            refine E_eqi (y := nI p) (nI_pred p) ?_
            refine E_ialdN (j := p) dX1_sortByDay_53 (by decide) rfl (by omega) (by decide) ?_
            refine E_eqi (y := nI (σ p)) (h1 p (by omega)) ?_
            refine E_iastN (j := p + 1) (f2 := upd g (p + 1) (nI (σ p))) (L2 := [(31, .inr (1, [.ref 32, .ref 33, .ref 34])), (33, .inl (false, 8, dd)), (34, .inl (false, 8, (upd g (p + 1) (nI (σ p)))))]) dX1_sortByDay_54 (by decide) rfl (by omega) (by decide) rfl rfl ?_
            refine E_iinc (y := nI p) (l2 := [.ref 31, .int (nI n), .int (nI i), .int (nI p)]) dX1_sortByDay_55 rfl (pk_m1 _) (by decide) rfl ?_
            refine E_goto (tgt := 15) dX1_sortByDay_58 (by decide) ?_
            exact ihp (by omega) _ (fun j hj => by rw [upd_ne (by omega)]; exact hg j hj) (fun j hj => by rw [upd_ne (by omega)]; exact h1 j (by omega)) (fun j hj hj2 => by
                by_cases e : j = p + 1
                · subst e; exact upd_eq
                · rw [upd_ne e]; exact h2 j (by omega) hj2) (fun j hj hj2 => by
                by_cases e : j = p
                · subst e; omega
                · exact h3 j (by omega) hj2)
      exact LI i (Nat.le_refl _) g hg hgs (fun j h1 h2 => by omega) (fun j h1 h2 => by omega)
  exact LO 0 (by omega) db (fun j => j) _ (fun j hj => rfl) ⟨fun j hj => by omega, fun j k hj => by omega, fun j k h1 h2 => by omega⟩ (fun j hj => by omega)

set_option maxHeartbeats 4000000 in
set_option maxRecDepth 20000 in
theorem c_areInTime (d : Nat) (n : Nat) (hn : n ≤ 8) (dn dd g : Nat → Int32) (dv : Nat → Nat) (hdd : ∀ j, j < n → dd j = nI (dv j) ∧ dv j ≤ 99) (nv : Nat → Nat) (hdn : ∀ j, j < n → dn j = nI (nv j) ∧ nv j ≤ 9) (σ : Nat → Nat) (hs : Srt dv σ n) (hgs : ∀ j, j < n → g j = nI (σ j)) (x : Int32) : FC YX1_areInTime (d + 1) [.ref 31, .int x, .int (nI n), .null, .null, .null] [(31, .inr (1, [.ref 32, .ref 33, .ref 34])), (32, .inl (false, 8, dn)), (33, .inl (false, 8, dd)), (34, .inl (false, 8, g))] (some (.int (b2i (allB (aiP nv dv σ x) n)))) [(31, .inr (1, [.ref 32, .ref 33, .ref 34])), (32, .inl (false, 8, dn)), (33, .inl (false, 8, dd)), (34, .inl (false, 8, g))] := by
  intro hp
  refine E_iconst (v := 0) dX1_areInTime_0 (by decide) ?_
  refine E_istore_n (l2 := [.ref 31, .int x, .int (nI n), .int 0, .null, .null]) dX1_areInTime_1 rfl (by decide) rfl ?_
  refine E_iconst (v := 0) dX1_areInTime_2 (by decide) ?_
  refine E_istore (l2 := [.ref 31, .int x, .int (nI n), .int 0, .int 0, .null]) dX1_areInTime_3 (by decide) rfl ?_
  have L : ∀ i, i ≤ n → (∀ k, k < i → aiP nv dv σ x k = true) → ∀ l5 : Value, E YX1_areInTime (d + 1) 5 [.ref 31, .int x, .int (nI n), .int (nI (cumS nv σ x i)), .int (nI i), l5] [] (hov hp [(31, .inr (1, [.ref 32, .ref 33, .ref 34])), (32, .inl (false, 8, dn)), (33, .inl (false, 8, dd)), (34, .inl (false, 8, g))]) (fun v h' => v = some (.int (b2i (allB (aiP nv dv σ x) n))) ∧ h' = hov hp [(31, .inr (1, [.ref 32, .ref 33, .ref 34])), (32, .inl (false, 8, dn)), (33, .inl (false, 8, dd)), (34, .inl (false, 8, g))]) := by
    refine down n ?_ ?_
    · intro hall l5
      refine E_iload dX1_areInTime_5 rfl ?_
      refine E_iload_n dX1_areInTime_7 rfl ?_
      refine E_icmp_ge (tgt := 65) dX1_areInTime_8 (by decide) (fun _ => ?_) (fun c => absurd (nI_le (Nat.le_refl _) (by omega)) c)
      refine E_iconst (v := 1) dX1_areInTime_65 (by decide) ?_
      exact E_iretf dX1_areInTime_66 rfl (b2i_nar _) (b2i_t (allB_t hall)) rfl
    · intro i hi ih hall l5
      have hsi := hs.1 i hi
      have hn9 := hdn (σ i) hsi
      have hd9 := hdd (σ i) hsi
      have hcu := cumS_le (x := x) (n := n) (fun j hj => (hdn (σ j) (hs.1 j hj)).2) i (by omega)
      refine E_iload dX1_areInTime_5 rfl ?_
      refine E_iload_n dX1_areInTime_7 rfl ?_
      refine E_icmp_ge (tgt := 65) dX1_areInTime_8 (by decide) (fun c => absurd c (nI_ge hi (by omega))) (fun _ => ?_)
      refine E_iload dX1_areInTime_11 rfl ?_
      refine E_bipush (v := 8) dX1_areInTime_13 (by decide) ?_
      refine E_icmp_ge (tgt := 65) dX1_areInTime_15 (by decide) (fun c => absurd c (cI_nle (n := 8) rfl (by omega) (by decide))) (fun _ => ?_)
      refine E_aload_n dX1_areInTime_18 rfl ?_
      refine E_get dX1_areInTime_19 fX1_18 (by decide) rfl rfl ?_
      refine E_iload dX1_areInTime_22 rfl ?_
      refine E_ialdN (j := i) dX1_areInTime_24 (by decide) rfl (by omega) (by decide) ?_
      refine E_eqi (y := nI (σ i)) (hgs i hi) ?_
      refine E_istore (l2 := [.ref 31, .int x, .int (nI n), .int (nI (cumS nv σ x i)), .int (nI i), .int (nI (σ i))]) dX1_areInTime_25 (by decide) rfl ?_
      refine E_iload_n dX1_areInTime_27 rfl ?_
      refine E_iload dX1_areInTime_28 rfl ?_
      refine E_callN (As := [.int x, .int (nI (σ i))]) (l' := [.int x, .int (nI (σ i))]) (st := []) dX1_areInTime_30 nX1_37 sX6_hasBit MX6_hasBit rfl rfl (Nat.le_of_ble_eq_true rfl) (FC.use (c_hasBit d _ _) rfl (L2 := [(31, .inr (1, [.ref 32, .ref 33, .ref 34])), (32, .inl (false, 8, dn)), (33, .inl (false, 8, dd)), (34, .inl (false, 8, g))]) rfl) (Nat.le_of_ble_eq_true rfl) (fun _ _ hq9 => E_fgo ?_ hq9)
      show E _ _ 33 [.ref 31, .int x, .int (nI n), .int (nI (cumS nv σ x i)), .int (nI i), .int (nI (σ i))] [.int (b2i (hbt x (nI (σ i))))] (hov hp [(31, .inr (1, [.ref 32, .ref 33, .ref 34])), (32, .inl (false, 8, dn)), (33, .inl (false, 8, dd)), (34, .inl (false, 8, g))]) _
      refine E_if_eq (tgt := 59) dX1_areInTime_33 (by decide) (fun c33 => ?_) (fun c33 => ?_)
      · have c33 := b2i_e0 c33
        refine E_iinc (y := nI (i + 1)) (l2 := [.ref 31, .int x, .int (nI n), .int (nI (cumS nv σ x i)), .int (nI (i + 1)), .int (nI (σ i))]) dX1_areInTime_59 rfl (nI_1 _) (by decide) rfl ?_
        refine E_goto (tgt := 5) dX1_areInTime_62 (by decide) ?_
        rw [cumS_f c33] at ih
        exact ih (fun k hk => by rcases Nat.lt_succ_iff_lt_or_eq.mp hk with h | h; exact hall k h; subst h; exact (by rw [aiP, c33]; rfl)) _
      · have c33 := b2i_n0 c33
        refine E_iload_n dX1_areInTime_36 rfl ?_
        refine E_aload_n dX1_areInTime_37 rfl ?_
        refine E_get dX1_areInTime_38 fX1_9 (by decide) rfl rfl ?_
        refine E_iload dX1_areInTime_41 rfl ?_
        refine E_ialdN (j := σ i) dX1_areInTime_43 (by decide) rfl (by omega) (by decide) ?_
        refine E_eqi (y := nI (nv (σ i))) hn9.1 ?_
        refine E_iadd dX1_areInTime_44 ?_
        refine E_eqi (y := nI (cumS nv σ x i + nv (σ i))) (nI_add _ _) ?_
        refine E_istore_n (l2 := [.ref 31, .int x, .int (nI n), .int (nI (cumS nv σ x i + nv (σ i))), .int (nI i), .int (nI (σ i))]) dX1_areInTime_45 rfl (by decide) rfl ?_
        refine E_iload_n dX1_areInTime_46 rfl ?_
        refine E_aload_n dX1_areInTime_47 rfl ?_
        refine E_get dX1_areInTime_48 fX1_15 (by decide) rfl rfl ?_
        refine E_iload dX1_areInTime_51 rfl ?_
        refine E_ialdN (j := σ i) dX1_areInTime_53 (by decide) rfl (by omega) (by decide) ?_
        refine E_eqi (y := nI (dv (σ i))) hd9.1 ?_
        refine E_icmp_le (tgt := 59) dX1_areInTime_54 (by decide) (fun c54 => ?_) (fun c54 => ?_)
        · have c54 : cumS nv σ x i + nv (σ i) ≤ dv (σ i) := (nI_leI (by omega) (by omega)).mp c54
          refine E_iinc (y := nI (i + 1)) (l2 := [.ref 31, .int x, .int (nI n), .int (nI (cumS nv σ x i + nv (σ i))), .int (nI (i + 1)), .int (nI (σ i))]) dX1_areInTime_59 rfl (nI_1 _) (by decide) rfl ?_
          refine E_goto (tgt := 5) dX1_areInTime_62 (by decide) ?_
          rw [cumS_t c33] at ih
          exact ih (fun k hk => by rcases Nat.lt_succ_iff_lt_or_eq.mp hk with h | h; exact hall k h; subst h; exact (by rw [aiP, c33, cumS_t c33, decide_eq_true c54]; rfl)) _
        · have c54 : ¬ cumS nv σ x i + nv (σ i) ≤ dv (σ i) := fun h => c54 (nI_le h (by omega))
          refine E_iconst (v := 0) dX1_areInTime_57 (by decide) ?_
          exact E_iretf dX1_areInTime_58 rfl (b2i_nar _) (b2i_f (allB_f hi (by rw [aiP, c33, cumS_t c33, decide_eq_false c54]; rfl))) rfl
  exact L 0 (by omega) (fun k hk => by omega) _

set_option maxHeartbeats 4000000 in
set_option maxRecDepth 20000 in
theorem c_most (d : Nat) (n : Nat) (hn : n ≤ 8) (dn dd db : Nat → Int32) (dv : Nat → Nat) (hdd : ∀ j, j < n → dd j = nI (dv j) ∧ dv j ≤ 99) (nv : Nat → Nat) (hdn : ∀ j, j < n → dn j = nI (nv j) ∧ nv j ≤ 9) : FR YX1_mostInTime (d + 2) [.ref 31, .int (nI n), .null, .null] [(31, .inr (1, [.ref 32, .ref 33, .ref 34])), (32, .inl (false, 8, dn)), (33, .inl (false, 8, dd)), (34, .inl (false, 8, db))] (fun v M => ∃ (g : Nat → Int32) (σ : Nat → Nat), M = [(31, .inr (1, [.ref 32, .ref 33, .ref 34])), (32, .inl (false, 8, dn)), (33, .inl (false, 8, dd)), (34, .inl (false, 8, g))] ∧ (∀ j, 8 ≤ j → g j = db j) ∧ Srt dv σ n ∧ v = some (.int (mit (fun x => allB (aiP nv dv σ x) n) (2 ^ n - 1)))) := by
  intro hp
  refine E_aload_n dX1_mostInTime_0 rfl ?_
  refine E_iload_n dX1_mostInTime_1 rfl ?_
  refine E_callV (As := [.int (nI n)]) (l' := [.ref 31, .int (nI n), .null, .null]) (st := []) dX1_mostInTime_2 kX1_23 iX1_sortByDay vX1_sortByDay (by decide) rfl rfl MX1_sortByDay rfl rfl (Nat.le_of_ble_eq_true rfl) (FR.use (c_sort (d + 1) n hn dd db dv hdd) (L := [(31, .inr (1, [.ref 32, .ref 33, .ref 34])), (32, .inl (false, 8, dn)), (33, .inl (false, 8, dd)), (34, .inl (false, 8, db))]) rfl) (Nat.le_of_ble_eq_true rfl) ?_
  intro v9 h9 hq9
  obtain ⟨M, rfl, rfl, g, rfl, hg, σ, hs, hgs⟩ := hq9
  show E _ _ 5 [.ref 31, .int (nI n), .null, .null] [] (hov hp [(31, .inr (1, [.ref 32, .ref 33, .ref 34])), (32, .inl (false, 8, dn)), (33, .inl (false, 8, dd)), (34, .inl (false, 8, g))]) _
  refine E_iconst (v := 0) dX1_mostInTime_5 (by decide) ?_
  refine E_istore_n (l2 := [.ref 31, .int (nI n), .int 0, .null]) dX1_mostInTime_6 rfl (by decide) rfl ?_
  refine E_iconst (v := 1) dX1_mostInTime_7 (by decide) ?_
  refine E_istore_n (l2 := [.ref 31, .int (nI n), .int 0, .int 1]) dX1_mostInTime_8 rfl (by decide) rfl ?_
  have hpw : 1 ≤ 2 ^ n := Nat.pos_of_ne_zero (by simp)
  have hpw2 : 2 ^ n ≤ 2 ^ 8 := Nat.pow_le_pow_right (by decide) hn
  have L : ∀ i, i ≤ 2 ^ n - 1 → E YX1_mostInTime (d + 2) 9 [.ref 31, .int (nI n), .int (mit (fun x => allB (aiP nv dv σ x) n) i), .int (nI (i + 1))] [] (hov hp [(31, .inr (1, [.ref 32, .ref 33, .ref 34])), (32, .inl (false, 8, dn)), (33, .inl (false, 8, dd)), (34, .inl (false, 8, g))]) (fun v h' => ∃ M, h' = hov hp M ∧ (fun v M => ∃ (g : Nat → Int32) (σ : Nat → Nat), M = [(31, .inr (1, [.ref 32, .ref 33, .ref 34])), (32, .inl (false, 8, dn)), (33, .inl (false, 8, dd)), (34, .inl (false, 8, g))] ∧ (∀ j, 8 ≤ j → g j = db j) ∧ Srt dv σ n ∧ v = some (.int (mit (fun x => allB (aiP nv dv σ x) n) (2 ^ n - 1)))) v M) := by
    refine down (2 ^ n - 1) ?_ ?_
    · refine E_iload_n dX1_mostInTime_9 rfl ?_
      refine E_iconst (v := 1) dX1_mostInTime_10 (by decide) ?_
      refine E_iload_n dX1_mostInTime_11 rfl ?_
      refine E_ishl dX1_mostInTime_12 ?_
      refine E_eqi (y := nI (2 ^ n)) (shl8 n (by omega)) ?_
      refine E_icmp_ge (tgt := 44) dX1_mostInTime_13 (by decide) (fun _ => ?_) (fun c => absurd (nI_le (by omega) (by omega)) c)
      refine E_iload_n dX1_mostInTime_44 rfl ?_
      exact E_iret (st := []) dX1_mostInTime_45 rfl rfl ⟨_, rfl, g, σ, rfl, hg, hs, rfl⟩
    · intro i hi ih
      refine E_iload_n dX1_mostInTime_9 rfl ?_
      refine E_iconst (v := 1) dX1_mostInTime_10 (by decide) ?_
      refine E_iload_n dX1_mostInTime_11 rfl ?_
      refine E_ishl dX1_mostInTime_12 ?_
      refine E_eqi (y := nI (2 ^ n)) (shl8 n (by omega)) ?_
      refine E_icmp_ge (tgt := 44) dX1_mostInTime_13 (by decide) (fun c => absurd c (nI_ge (by omega) (by omega))) (fun _ => ?_)
      refine E_iload_n dX1_mostInTime_16 rfl ?_
      refine E_callS (As := [.int (nI (i + 1))]) (l' := [.int (nI (i + 1))]) (st := []) dX1_mostInTime_17 kX1_27 sJ6_bitCount_0f7a4 MJ6_bitCount_0f7a4 rfl rfl (Nat.le_of_ble_eq_true rfl) (FC.use (c_bitCount (d + 1) _) rfl (L2 := [(31, .inr (1, [.ref 32, .ref 33, .ref 34])), (32, .inl (false, 8, dn)), (33, .inl (false, 8, dd)), (34, .inl (false, 8, g))]) rfl) (Nat.le_of_ble_eq_true rfl) (fun _ _ hq9 => E_fgo ?_ hq9)
      show E _ _ 20 [.ref 31, .int (nI n), .int (mit (fun x => allB (aiP nv dv σ x) n) i), .int (nI (i + 1))] [.int (bcI (nI (i + 1)))] (hov hp [(31, .inr (1, [.ref 32, .ref 33, .ref 34])), (32, .inl (false, 8, dn)), (33, .inl (false, 8, dd)), (34, .inl (false, 8, g))]) _
      refine E_iload_n dX1_mostInTime_20 rfl ?_
      refine E_callS (As := [.int (mit (fun x => allB (aiP nv dv σ x) n) i)]) (l' := [.int (mit (fun x => allB (aiP nv dv σ x) n) i)]) (st := [.int (bcI (nI (i + 1)))]) dX1_mostInTime_21 kX1_27 sJ6_bitCount_0f7a4 MJ6_bitCount_0f7a4 rfl rfl (Nat.le_of_ble_eq_true rfl) (FC.use (c_bitCount (d + 1) _) rfl (L2 := [(31, .inr (1, [.ref 32, .ref 33, .ref 34])), (32, .inl (false, 8, dn)), (33, .inl (false, 8, dd)), (34, .inl (false, 8, g))]) rfl) (Nat.le_of_ble_eq_true rfl) (fun _ _ hq9 => E_fgo ?_ hq9)
      show E _ _ 24 [.ref 31, .int (nI n), .int (mit (fun x => allB (aiP nv dv σ x) n) i), .int (nI (i + 1))] [.int (bcI (mit (fun x => allB (aiP nv dv σ x) n) i)), .int (bcI (nI (i + 1)))] (hov hp [(31, .inr (1, [.ref 32, .ref 33, .ref 34])), (32, .inl (false, 8, dn)), (33, .inl (false, 8, dd)), (34, .inl (false, 8, g))]) _
      refine E_icmp_le (tgt := 38) dX1_mostInTime_24 (by decide) (fun c24 => ?_) (fun c24 => ?_)
      · rw [← Int32.not_lt] at c24
        refine E_iinc (y := nI (i + 1 + 1)) (l2 := [.ref 31, .int (nI n), .int (mit (fun x => allB (aiP nv dv σ x) n) i), .int (nI (i + 1 + 1))]) dX1_mostInTime_38 rfl (nI_1 _) (by decide) rfl ?_
        refine E_goto (tgt := 9) dX1_mostInTime_41 (by decide) ?_
        rw [mit_a c24] at ih
        exact ih
      · rw [Int32.not_le] at c24
        refine E_aload_n dX1_mostInTime_27 rfl ?_
        refine E_iload_n dX1_mostInTime_28 rfl ?_
        refine E_iload_n dX1_mostInTime_29 rfl ?_
        refine E_callV (As := [.int (nI (i + 1)), .int (nI n)]) (l' := [.ref 31, .int (nI (i + 1)), .int (nI n), .null, .null, .null]) (st := []) dX1_mostInTime_30 kX1_33 iX1_areInTime vX1_areInTime (by decide) rfl rfl MX1_areInTime rfl rfl (Nat.le_of_ble_eq_true rfl) (FC.use (c_areInTime d n hn dn dd g dv hdd nv hdn σ hs hgs _) rfl (L2 := [(31, .inr (1, [.ref 32, .ref 33, .ref 34])), (32, .inl (false, 8, dn)), (33, .inl (false, 8, dd)), (34, .inl (false, 8, g))]) rfl) (Nat.le_of_ble_eq_true rfl) (fun _ _ hq9 => E_fgo ?_ hq9)
        show E _ _ 33 [.ref 31, .int (nI n), .int (mit (fun x => allB (aiP nv dv σ x) n) i), .int (nI (i + 1))] [.int (b2i (allB (aiP nv dv σ (nI (i + 1))) n))] (hov hp [(31, .inr (1, [.ref 32, .ref 33, .ref 34])), (32, .inl (false, 8, dn)), (33, .inl (false, 8, dd)), (34, .inl (false, 8, g))]) _
        refine E_if_eq (tgt := 38) dX1_mostInTime_33 (by decide) (fun c33 => ?_) (fun c33 => ?_)
        · have c33 := b2i_e0 c33
          refine E_iinc (y := nI (i + 1 + 1)) (l2 := [.ref 31, .int (nI n), .int (mit (fun x => allB (aiP nv dv σ x) n) i), .int (nI (i + 1 + 1))]) dX1_mostInTime_38 rfl (nI_1 _) (by decide) rfl ?_
          refine E_goto (tgt := 9) dX1_mostInTime_41 (by decide) ?_
          rw [mit_b (ok := (fun x => allB (aiP nv dv σ x) n)) c33] at ih
          exact ih
        · have c33 := b2i_n0 c33
          refine E_iload_n dX1_mostInTime_36 rfl ?_
          refine E_istore_n (l2 := [.ref 31, .int (nI n), .int (nI (i + 1)), .int (nI (i + 1))]) dX1_mostInTime_37 rfl (by decide) rfl ?_
          refine E_iinc (y := nI (i + 1 + 1)) (l2 := [.ref 31, .int (nI n), .int (nI (i + 1)), .int (nI (i + 1 + 1))]) dX1_mostInTime_38 rfl (nI_1 _) (by decide) rfl ?_
          refine E_goto (tgt := 9) dX1_mostInTime_41 (by decide) ?_
          rw [mit_t (ok := (fun x => allB (aiP nv dv σ x) n)) c24 c33] at ih
          exact ih
  exact L 0 (by omega)

set_option maxHeartbeats 4000000 in
set_option maxRecDepth 20000 in
theorem t_due_o0 (d : Nat) (rk : Nat) (x n w : Int32) (z : Int64) (h0 : inL (Int32.toInt64 n) 1 8 = false) : FC YX6_due (d + 3) [.ref 0, .int x, .long z, .null, .int n, .int w, .null] [(0, .inr (6, [.ref 1, .ref 5, .ref 7, .ref 10, .ref 18, .ref 26, .ref 31, .ref 35, .ref 36, .ref 37, .int (nI rk)]))] (some (.int (-2))) [(0, .inr (6, [.ref 1, .ref 5, .ref 7, .ref 10, .ref 18, .ref 26, .ref 31, .ref 35, .ref 36, .ref 37, .int (nI rk)]))] := by
  intro hp
  refine E_iload dX6_due_0 rfl ?_
  refine E_i2l dX6_due_2 ?_
  refine E_lconst (v := 1) dX6_due_3 (by decide) ?_
  refine E_ldc2 dX6_due_4 qX6_180 ?_
  refine E_callS (As := [.long (Int32.toInt64 n), .long 1, .long 8]) (l' := [.long (Int32.toInt64 n), .null, .long 1, .null, .long 8, .null]) (st := []) dX6_due_7 kX6_76 sX6_isIn MX6_isIn rfl rfl (Nat.le_of_ble_eq_true rfl) (FC.use (c_isIn (d + 2) _ _ _) rfl (L2 := [(0, .inr (6, [.ref 1, .ref 5, .ref 7, .ref 10, .ref 18, .ref 26, .ref 31, .ref 35, .ref 36, .ref 37, .int (nI rk)]))]) rfl) (Nat.le_of_ble_eq_true rfl) (fun _ _ hq9 => E_fgo ?_ hq9)
  show E _ _ 10 [.ref 0, .int x, .long z, .null, .int n, .int w, .null] [.int (b2i (inL (Int32.toInt64 n) 1 8))] (hov hp [(0, .inr (6, [.ref 1, .ref 5, .ref 7, .ref 10, .ref 18, .ref 26, .ref 31, .ref 35, .ref 36, .ref 37, .int (nI rk)]))]) _
  refine E_if_eq (tgt := 24) dX6_due_10 (by decide) (fun _ => ?_) (fun c => (b2i_x0 h0 c).elim)
  refine E_bipush (v := (-2)) dX6_due_24 (by decide) ?_
  exact E_iretf dX6_due_26 rfl rfl rfl rfl

set_option maxHeartbeats 4000000 in
set_option maxRecDepth 20000 in
theorem t_due_o1 (d : Nat) (rk : Nat) (x n w : Int32) (z : Int64) (h0 : inL (Int32.toInt64 n) 1 8 = true) (h1 : inL (Int32.toInt64 w) 0 1 = false) : FC YX6_due (d + 3) [.ref 0, .int x, .long z, .null, .int n, .int w, .null] [(0, .inr (6, [.ref 1, .ref 5, .ref 7, .ref 10, .ref 18, .ref 26, .ref 31, .ref 35, .ref 36, .ref 37, .int (nI rk)]))] (some (.int (-2))) [(0, .inr (6, [.ref 1, .ref 5, .ref 7, .ref 10, .ref 18, .ref 26, .ref 31, .ref 35, .ref 36, .ref 37, .int (nI rk)]))] := by
  intro hp
  refine E_iload dX6_due_0 rfl ?_
  refine E_i2l dX6_due_2 ?_
  refine E_lconst (v := 1) dX6_due_3 (by decide) ?_
  refine E_ldc2 dX6_due_4 qX6_180 ?_
  refine E_callS (As := [.long (Int32.toInt64 n), .long 1, .long 8]) (l' := [.long (Int32.toInt64 n), .null, .long 1, .null, .long 8, .null]) (st := []) dX6_due_7 kX6_76 sX6_isIn MX6_isIn rfl rfl (Nat.le_of_ble_eq_true rfl) (FC.use (c_isIn (d + 2) _ _ _) rfl (L2 := [(0, .inr (6, [.ref 1, .ref 5, .ref 7, .ref 10, .ref 18, .ref 26, .ref 31, .ref 35, .ref 36, .ref 37, .int (nI rk)]))]) rfl) (Nat.le_of_ble_eq_true rfl) (fun _ _ hq9 => E_fgo ?_ hq9)
  show E _ _ 10 [.ref 0, .int x, .long z, .null, .int n, .int w, .null] [.int (b2i (inL (Int32.toInt64 n) 1 8))] (hov hp [(0, .inr (6, [.ref 1, .ref 5, .ref 7, .ref 10, .ref 18, .ref 26, .ref 31, .ref 35, .ref 36, .ref 37, .int (nI rk)]))]) _
  refine E_if_eq (tgt := 24) dX6_due_10 (by decide) (fun c => (b2i_x1 h0 c).elim) (fun _ => ?_)
  refine E_iload dX6_due_13 rfl ?_
  refine E_i2l dX6_due_15 ?_
  refine E_lconst (v := 0) dX6_due_16 (by decide) ?_
  refine E_lconst (v := 1) dX6_due_17 (by decide) ?_
  refine E_callS (As := [.long (Int32.toInt64 w), .long 0, .long 1]) (l' := [.long (Int32.toInt64 w), .null, .long 0, .null, .long 1, .null]) (st := []) dX6_due_18 kX6_76 sX6_isIn MX6_isIn rfl rfl (Nat.le_of_ble_eq_true rfl) (FC.use (c_isIn (d + 2) _ _ _) rfl (L2 := [(0, .inr (6, [.ref 1, .ref 5, .ref 7, .ref 10, .ref 18, .ref 26, .ref 31, .ref 35, .ref 36, .ref 37, .int (nI rk)]))]) rfl) (Nat.le_of_ble_eq_true rfl) (fun _ _ hq9 => E_fgo ?_ hq9)
  show E _ _ 21 [.ref 0, .int x, .long z, .null, .int n, .int w, .null] [.int (b2i (inL (Int32.toInt64 w) 0 1))] (hov hp [(0, .inr (6, [.ref 1, .ref 5, .ref 7, .ref 10, .ref 18, .ref 26, .ref 31, .ref 35, .ref 36, .ref 37, .int (nI rk)]))]) _
  refine E_if_ne (tgt := 27) dX6_due_21 (by decide) (fun c => (b2i_x0 h1 c).elim) (fun _ => ?_)
  refine E_bipush (v := (-2)) dX6_due_24 (by decide) ?_
  exact E_iretf dX6_due_26 rfl rfl rfl rfl

set_option maxHeartbeats 4000000 in
set_option maxRecDepth 20000 in
theorem t_due_n (d : Nat) (rk : Nat) (dn dd db : Nat → Int32) (x : Int32) (z : Int64) (n : Nat) (hn : n ≤ 8) (w : Int32) (h0 : inL (Int32.toInt64 (nI n)) 1 8 = true) (h1 : inL (Int32.toInt64 w) 0 1 = true) (hr : (rn n x dn).1 = false) : FC YX6_due (d + 3) [.ref 0, .int x, .long z, .null, .int (nI n), .int w, .null] [(0, .inr (6, [.ref 1, .ref 5, .ref 7, .ref 10, .ref 18, .ref 26, .ref 31, .ref 35, .ref 36, .ref 37, .int (nI rk)])), (31, .inr (1, [.ref 32, .ref 33, .ref 34])), (32, .inl (false, 8, dn)), (33, .inl (false, 8, dd)), (34, .inl (false, 8, db))] (some (.int (-2))) [(0, .inr (6, [.ref 1, .ref 5, .ref 7, .ref 10, .ref 18, .ref 26, .ref 31, .ref 35, .ref 36, .ref 37, .int (nI rk)])), (31, .inr (1, [.ref 32, .ref 33, .ref 34])), (32, .inl (false, 8, (rn n x dn).2)), (33, .inl (false, 8, dd)), (34, .inl (false, 8, db))] := by
  intro hp
  refine E_iload dX6_due_0 rfl ?_
  refine E_i2l dX6_due_2 ?_
  refine E_lconst (v := 1) dX6_due_3 (by decide) ?_
  refine E_ldc2 dX6_due_4 qX6_180 ?_
  refine E_callS (As := [.long (Int32.toInt64 (nI n)), .long 1, .long 8]) (l' := [.long (Int32.toInt64 (nI n)), .null, .long 1, .null, .long 8, .null]) (st := []) dX6_due_7 kX6_76 sX6_isIn MX6_isIn rfl rfl (Nat.le_of_ble_eq_true rfl) (FC.use (c_isIn (d + 2) _ _ _) rfl (L2 := [(0, .inr (6, [.ref 1, .ref 5, .ref 7, .ref 10, .ref 18, .ref 26, .ref 31, .ref 35, .ref 36, .ref 37, .int (nI rk)])), (31, .inr (1, [.ref 32, .ref 33, .ref 34])), (32, .inl (false, 8, dn)), (33, .inl (false, 8, dd)), (34, .inl (false, 8, db))]) rfl) (Nat.le_of_ble_eq_true rfl) (fun _ _ hq9 => E_fgo ?_ hq9)
  show E _ _ 10 [.ref 0, .int x, .long z, .null, .int (nI n), .int w, .null] [.int (b2i (inL (Int32.toInt64 (nI n)) 1 8))] (hov hp [(0, .inr (6, [.ref 1, .ref 5, .ref 7, .ref 10, .ref 18, .ref 26, .ref 31, .ref 35, .ref 36, .ref 37, .int (nI rk)])), (31, .inr (1, [.ref 32, .ref 33, .ref 34])), (32, .inl (false, 8, dn)), (33, .inl (false, 8, dd)), (34, .inl (false, 8, db))]) _
  refine E_if_eq (tgt := 24) dX6_due_10 (by decide) (fun c => (b2i_x1 h0 c).elim) (fun _ => ?_)
  refine E_iload dX6_due_13 rfl ?_
  refine E_i2l dX6_due_15 ?_
  refine E_lconst (v := 0) dX6_due_16 (by decide) ?_
  refine E_lconst (v := 1) dX6_due_17 (by decide) ?_
  refine E_callS (As := [.long (Int32.toInt64 w), .long 0, .long 1]) (l' := [.long (Int32.toInt64 w), .null, .long 0, .null, .long 1, .null]) (st := []) dX6_due_18 kX6_76 sX6_isIn MX6_isIn rfl rfl (Nat.le_of_ble_eq_true rfl) (FC.use (c_isIn (d + 2) _ _ _) rfl (L2 := [(0, .inr (6, [.ref 1, .ref 5, .ref 7, .ref 10, .ref 18, .ref 26, .ref 31, .ref 35, .ref 36, .ref 37, .int (nI rk)])), (31, .inr (1, [.ref 32, .ref 33, .ref 34])), (32, .inl (false, 8, dn)), (33, .inl (false, 8, dd)), (34, .inl (false, 8, db))]) rfl) (Nat.le_of_ble_eq_true rfl) (fun _ _ hq9 => E_fgo ?_ hq9)
  show E _ _ 21 [.ref 0, .int x, .long z, .null, .int (nI n), .int w, .null] [.int (b2i (inL (Int32.toInt64 w) 0 1))] (hov hp [(0, .inr (6, [.ref 1, .ref 5, .ref 7, .ref 10, .ref 18, .ref 26, .ref 31, .ref 35, .ref 36, .ref 37, .int (nI rk)])), (31, .inr (1, [.ref 32, .ref 33, .ref 34])), (32, .inl (false, 8, dn)), (33, .inl (false, 8, dd)), (34, .inl (false, 8, db))]) _
  refine E_if_ne (tgt := 27) dX6_due_21 (by decide) (fun _ => ?_) (fun c => (b2i_x1 h1 c).elim)
  refine E_aload_n dX6_due_27 rfl ?_
  refine E_get dX6_due_28 fX6_50 (by decide) rfl rfl ?_
  refine E_iload_n dX6_due_31 rfl ?_
  refine E_iload dX6_due_32 rfl ?_
  refine E_callV (As := [.int x, .int (nI n)]) (l' := [.ref 31, .int x, .int (nI n), .null, .null, .null]) (st := []) dX6_due_34 kX6_182 iX1_readNights vX1_readNights (by decide) rfl rfl MX1_readNights rfl rfl (Nat.le_of_ble_eq_true rfl) (FC.use (c_readNights (d + 2) dn x n hn) rfl (L2 := [(0, .inr (6, [.ref 1, .ref 5, .ref 7, .ref 10, .ref 18, .ref 26, .ref 31, .ref 35, .ref 36, .ref 37, .int (nI rk)])), (31, .inr (1, [.ref 32, .ref 33, .ref 34])), (32, .inl (false, 8, (rn n x dn).2)), (33, .inl (false, 8, dd)), (34, .inl (false, 8, db))]) rfl) (Nat.le_of_ble_eq_true rfl) (fun _ _ hq9 => E_fgo ?_ hq9)
  show E _ _ 37 [.ref 0, .int x, .long z, .null, .int (nI n), .int w, .null] [.int (b2i ((rn n x dn).1))] (hov hp [(0, .inr (6, [.ref 1, .ref 5, .ref 7, .ref 10, .ref 18, .ref 26, .ref 31, .ref 35, .ref 36, .ref 37, .int (nI rk)])), (31, .inr (1, [.ref 32, .ref 33, .ref 34])), (32, .inl (false, 8, (rn n x dn).2)), (33, .inl (false, 8, dd)), (34, .inl (false, 8, db))]) _
  refine E_if_eq (tgt := 53) dX6_due_37 (by decide) (fun _ => ?_) (fun c => (b2i_x0 hr c).elim)
  refine E_bipush (v := (-2)) dX6_due_53 (by decide) ?_
  exact E_iretf dX6_due_55 rfl rfl rfl rfl

set_option maxHeartbeats 4000000 in
set_option maxRecDepth 20000 in
theorem t_due_dn (d : Nat) (rk : Nat) (dn dd db : Nat → Int32) (x : Int32) (z : Int64) (n : Nat) (hn : n ≤ 8) (w : Int32) (h0 : inL (Int32.toInt64 (nI n)) 1 8 = true) (h1 : inL (Int32.toInt64 w) 0 1 = true) (hr : (rn n x dn).1 = true) (hz : ¬ 0 ≤ z) : FC YX6_due (d + 3) [.ref 0, .int x, .long z, .null, .int (nI n), .int w, .null] [(0, .inr (6, [.ref 1, .ref 5, .ref 7, .ref 10, .ref 18, .ref 26, .ref 31, .ref 35, .ref 36, .ref 37, .int (nI rk)])), (31, .inr (1, [.ref 32, .ref 33, .ref 34])), (32, .inl (false, 8, dn)), (33, .inl (false, 8, dd)), (34, .inl (false, 8, db))] (some (.int (-2))) [(0, .inr (6, [.ref 1, .ref 5, .ref 7, .ref 10, .ref 18, .ref 26, .ref 31, .ref 35, .ref 36, .ref 37, .int (nI rk)])), (31, .inr (1, [.ref 32, .ref 33, .ref 34])), (32, .inl (false, 8, (rn n x dn).2)), (33, .inl (false, 8, dd)), (34, .inl (false, 8, db))] := by
  intro hp
  refine E_iload dX6_due_0 rfl ?_
  refine E_i2l dX6_due_2 ?_
  refine E_lconst (v := 1) dX6_due_3 (by decide) ?_
  refine E_ldc2 dX6_due_4 qX6_180 ?_
  refine E_callS (As := [.long (Int32.toInt64 (nI n)), .long 1, .long 8]) (l' := [.long (Int32.toInt64 (nI n)), .null, .long 1, .null, .long 8, .null]) (st := []) dX6_due_7 kX6_76 sX6_isIn MX6_isIn rfl rfl (Nat.le_of_ble_eq_true rfl) (FC.use (c_isIn (d + 2) _ _ _) rfl (L2 := [(0, .inr (6, [.ref 1, .ref 5, .ref 7, .ref 10, .ref 18, .ref 26, .ref 31, .ref 35, .ref 36, .ref 37, .int (nI rk)])), (31, .inr (1, [.ref 32, .ref 33, .ref 34])), (32, .inl (false, 8, dn)), (33, .inl (false, 8, dd)), (34, .inl (false, 8, db))]) rfl) (Nat.le_of_ble_eq_true rfl) (fun _ _ hq9 => E_fgo ?_ hq9)
  show E _ _ 10 [.ref 0, .int x, .long z, .null, .int (nI n), .int w, .null] [.int (b2i (inL (Int32.toInt64 (nI n)) 1 8))] (hov hp [(0, .inr (6, [.ref 1, .ref 5, .ref 7, .ref 10, .ref 18, .ref 26, .ref 31, .ref 35, .ref 36, .ref 37, .int (nI rk)])), (31, .inr (1, [.ref 32, .ref 33, .ref 34])), (32, .inl (false, 8, dn)), (33, .inl (false, 8, dd)), (34, .inl (false, 8, db))]) _
  refine E_if_eq (tgt := 24) dX6_due_10 (by decide) (fun c => (b2i_x1 h0 c).elim) (fun _ => ?_)
  refine E_iload dX6_due_13 rfl ?_
  refine E_i2l dX6_due_15 ?_
  refine E_lconst (v := 0) dX6_due_16 (by decide) ?_
  refine E_lconst (v := 1) dX6_due_17 (by decide) ?_
  refine E_callS (As := [.long (Int32.toInt64 w), .long 0, .long 1]) (l' := [.long (Int32.toInt64 w), .null, .long 0, .null, .long 1, .null]) (st := []) dX6_due_18 kX6_76 sX6_isIn MX6_isIn rfl rfl (Nat.le_of_ble_eq_true rfl) (FC.use (c_isIn (d + 2) _ _ _) rfl (L2 := [(0, .inr (6, [.ref 1, .ref 5, .ref 7, .ref 10, .ref 18, .ref 26, .ref 31, .ref 35, .ref 36, .ref 37, .int (nI rk)])), (31, .inr (1, [.ref 32, .ref 33, .ref 34])), (32, .inl (false, 8, dn)), (33, .inl (false, 8, dd)), (34, .inl (false, 8, db))]) rfl) (Nat.le_of_ble_eq_true rfl) (fun _ _ hq9 => E_fgo ?_ hq9)
  show E _ _ 21 [.ref 0, .int x, .long z, .null, .int (nI n), .int w, .null] [.int (b2i (inL (Int32.toInt64 w) 0 1))] (hov hp [(0, .inr (6, [.ref 1, .ref 5, .ref 7, .ref 10, .ref 18, .ref 26, .ref 31, .ref 35, .ref 36, .ref 37, .int (nI rk)])), (31, .inr (1, [.ref 32, .ref 33, .ref 34])), (32, .inl (false, 8, dn)), (33, .inl (false, 8, dd)), (34, .inl (false, 8, db))]) _
  refine E_if_ne (tgt := 27) dX6_due_21 (by decide) (fun _ => ?_) (fun c => (b2i_x1 h1 c).elim)
  refine E_aload_n dX6_due_27 rfl ?_
  refine E_get dX6_due_28 fX6_50 (by decide) rfl rfl ?_
  refine E_iload_n dX6_due_31 rfl ?_
  refine E_iload dX6_due_32 rfl ?_
  refine E_callV (As := [.int x, .int (nI n)]) (l' := [.ref 31, .int x, .int (nI n), .null, .null, .null]) (st := []) dX6_due_34 kX6_182 iX1_readNights vX1_readNights (by decide) rfl rfl MX1_readNights rfl rfl (Nat.le_of_ble_eq_true rfl) (FC.use (c_readNights (d + 2) dn x n hn) rfl (L2 := [(0, .inr (6, [.ref 1, .ref 5, .ref 7, .ref 10, .ref 18, .ref 26, .ref 31, .ref 35, .ref 36, .ref 37, .int (nI rk)])), (31, .inr (1, [.ref 32, .ref 33, .ref 34])), (32, .inl (false, 8, (rn n x dn).2)), (33, .inl (false, 8, dd)), (34, .inl (false, 8, db))]) rfl) (Nat.le_of_ble_eq_true rfl) (fun _ _ hq9 => E_fgo ?_ hq9)
  show E _ _ 37 [.ref 0, .int x, .long z, .null, .int (nI n), .int w, .null] [.int (b2i ((rn n x dn).1))] (hov hp [(0, .inr (6, [.ref 1, .ref 5, .ref 7, .ref 10, .ref 18, .ref 26, .ref 31, .ref 35, .ref 36, .ref 37, .int (nI rk)])), (31, .inr (1, [.ref 32, .ref 33, .ref 34])), (32, .inl (false, 8, (rn n x dn).2)), (33, .inl (false, 8, dd)), (34, .inl (false, 8, db))]) _
  refine E_if_eq (tgt := 53) dX6_due_37 (by decide) (fun c => (b2i_x1 hr c).elim) (fun _ => ?_)
  refine E_aload_n dX6_due_40 rfl ?_
  refine E_get dX6_due_41 fX6_50 (by decide) rfl rfl ?_
  refine E_lload_n dX6_due_44 rfl ?_
  refine E_iload dX6_due_45 rfl ?_
  refine E_callV (As := [.long z, .int (nI n)]) (l' := [.ref 31, .long z, .null, .int (nI n), .null, .null, .null]) (st := []) dX6_due_47 kX6_185 iX1_readDays vX1_readDays (by decide) rfl rfl MX1_readDays rfl rfl (Nat.le_of_ble_eq_true rfl) (FC.use (c_readDays_neg (d + 2) dd z n hz) rfl (L2 := [(0, .inr (6, [.ref 1, .ref 5, .ref 7, .ref 10, .ref 18, .ref 26, .ref 31, .ref 35, .ref 36, .ref 37, .int (nI rk)])), (31, .inr (1, [.ref 32, .ref 33, .ref 34])), (32, .inl (false, 8, (rn n x dn).2)), (33, .inl (false, 8, dd)), (34, .inl (false, 8, db))]) rfl) (Nat.le_of_ble_eq_true rfl) (fun _ _ hq9 => E_fgo ?_ hq9)
  show E _ _ 50 [.ref 0, .int x, .long z, .null, .int (nI n), .int w, .null] [.int (b2i false)] (hov hp [(0, .inr (6, [.ref 1, .ref 5, .ref 7, .ref 10, .ref 18, .ref 26, .ref 31, .ref 35, .ref 36, .ref 37, .int (nI rk)])), (31, .inr (1, [.ref 32, .ref 33, .ref 34])), (32, .inl (false, 8, (rn n x dn).2)), (33, .inl (false, 8, dd)), (34, .inl (false, 8, db))]) _
  refine E_if_ne (tgt := 56) dX6_due_50 (by decide) (fun c => (b2i_x0 rfl c).elim) (fun _ => ?_)
  refine E_bipush (v := (-2)) dX6_due_53 (by decide) ?_
  exact E_iretf dX6_due_55 rfl rfl rfl rfl

set_option maxHeartbeats 4000000 in
set_option maxRecDepth 20000 in
theorem t_due_d (d : Nat) (rk : Nat) (dn dd db : Nat → Int32) (x : Int32) (z : Int64) (n : Nat) (hn : n ≤ 8) (w : Int32) (h0 : inL (Int32.toInt64 (nI n)) 1 8 = true) (h1 : inL (Int32.toInt64 w) 0 1 = true) (hr : (rn n x dn).1 = true) (hz : 0 ≤ z) (hd : (rd n z dd).1 = false) : FC YX6_due (d + 3) [.ref 0, .int x, .long z, .null, .int (nI n), .int w, .null] [(0, .inr (6, [.ref 1, .ref 5, .ref 7, .ref 10, .ref 18, .ref 26, .ref 31, .ref 35, .ref 36, .ref 37, .int (nI rk)])), (31, .inr (1, [.ref 32, .ref 33, .ref 34])), (32, .inl (false, 8, dn)), (33, .inl (false, 8, dd)), (34, .inl (false, 8, db))] (some (.int (-2))) [(0, .inr (6, [.ref 1, .ref 5, .ref 7, .ref 10, .ref 18, .ref 26, .ref 31, .ref 35, .ref 36, .ref 37, .int (nI rk)])), (31, .inr (1, [.ref 32, .ref 33, .ref 34])), (32, .inl (false, 8, (rn n x dn).2)), (33, .inl (false, 8, (rd n z dd).2)), (34, .inl (false, 8, db))] := by
  intro hp
  refine E_iload dX6_due_0 rfl ?_
  refine E_i2l dX6_due_2 ?_
  refine E_lconst (v := 1) dX6_due_3 (by decide) ?_
  refine E_ldc2 dX6_due_4 qX6_180 ?_
  refine E_callS (As := [.long (Int32.toInt64 (nI n)), .long 1, .long 8]) (l' := [.long (Int32.toInt64 (nI n)), .null, .long 1, .null, .long 8, .null]) (st := []) dX6_due_7 kX6_76 sX6_isIn MX6_isIn rfl rfl (Nat.le_of_ble_eq_true rfl) (FC.use (c_isIn (d + 2) _ _ _) rfl (L2 := [(0, .inr (6, [.ref 1, .ref 5, .ref 7, .ref 10, .ref 18, .ref 26, .ref 31, .ref 35, .ref 36, .ref 37, .int (nI rk)])), (31, .inr (1, [.ref 32, .ref 33, .ref 34])), (32, .inl (false, 8, dn)), (33, .inl (false, 8, dd)), (34, .inl (false, 8, db))]) rfl) (Nat.le_of_ble_eq_true rfl) (fun _ _ hq9 => E_fgo ?_ hq9)
  show E _ _ 10 [.ref 0, .int x, .long z, .null, .int (nI n), .int w, .null] [.int (b2i (inL (Int32.toInt64 (nI n)) 1 8))] (hov hp [(0, .inr (6, [.ref 1, .ref 5, .ref 7, .ref 10, .ref 18, .ref 26, .ref 31, .ref 35, .ref 36, .ref 37, .int (nI rk)])), (31, .inr (1, [.ref 32, .ref 33, .ref 34])), (32, .inl (false, 8, dn)), (33, .inl (false, 8, dd)), (34, .inl (false, 8, db))]) _
  refine E_if_eq (tgt := 24) dX6_due_10 (by decide) (fun c => (b2i_x1 h0 c).elim) (fun _ => ?_)
  refine E_iload dX6_due_13 rfl ?_
  refine E_i2l dX6_due_15 ?_
  refine E_lconst (v := 0) dX6_due_16 (by decide) ?_
  refine E_lconst (v := 1) dX6_due_17 (by decide) ?_
  refine E_callS (As := [.long (Int32.toInt64 w), .long 0, .long 1]) (l' := [.long (Int32.toInt64 w), .null, .long 0, .null, .long 1, .null]) (st := []) dX6_due_18 kX6_76 sX6_isIn MX6_isIn rfl rfl (Nat.le_of_ble_eq_true rfl) (FC.use (c_isIn (d + 2) _ _ _) rfl (L2 := [(0, .inr (6, [.ref 1, .ref 5, .ref 7, .ref 10, .ref 18, .ref 26, .ref 31, .ref 35, .ref 36, .ref 37, .int (nI rk)])), (31, .inr (1, [.ref 32, .ref 33, .ref 34])), (32, .inl (false, 8, dn)), (33, .inl (false, 8, dd)), (34, .inl (false, 8, db))]) rfl) (Nat.le_of_ble_eq_true rfl) (fun _ _ hq9 => E_fgo ?_ hq9)
  show E _ _ 21 [.ref 0, .int x, .long z, .null, .int (nI n), .int w, .null] [.int (b2i (inL (Int32.toInt64 w) 0 1))] (hov hp [(0, .inr (6, [.ref 1, .ref 5, .ref 7, .ref 10, .ref 18, .ref 26, .ref 31, .ref 35, .ref 36, .ref 37, .int (nI rk)])), (31, .inr (1, [.ref 32, .ref 33, .ref 34])), (32, .inl (false, 8, dn)), (33, .inl (false, 8, dd)), (34, .inl (false, 8, db))]) _
  refine E_if_ne (tgt := 27) dX6_due_21 (by decide) (fun _ => ?_) (fun c => (b2i_x1 h1 c).elim)
  refine E_aload_n dX6_due_27 rfl ?_
  refine E_get dX6_due_28 fX6_50 (by decide) rfl rfl ?_
  refine E_iload_n dX6_due_31 rfl ?_
  refine E_iload dX6_due_32 rfl ?_
  refine E_callV (As := [.int x, .int (nI n)]) (l' := [.ref 31, .int x, .int (nI n), .null, .null, .null]) (st := []) dX6_due_34 kX6_182 iX1_readNights vX1_readNights (by decide) rfl rfl MX1_readNights rfl rfl (Nat.le_of_ble_eq_true rfl) (FC.use (c_readNights (d + 2) dn x n hn) rfl (L2 := [(0, .inr (6, [.ref 1, .ref 5, .ref 7, .ref 10, .ref 18, .ref 26, .ref 31, .ref 35, .ref 36, .ref 37, .int (nI rk)])), (31, .inr (1, [.ref 32, .ref 33, .ref 34])), (32, .inl (false, 8, (rn n x dn).2)), (33, .inl (false, 8, dd)), (34, .inl (false, 8, db))]) rfl) (Nat.le_of_ble_eq_true rfl) (fun _ _ hq9 => E_fgo ?_ hq9)
  show E _ _ 37 [.ref 0, .int x, .long z, .null, .int (nI n), .int w, .null] [.int (b2i ((rn n x dn).1))] (hov hp [(0, .inr (6, [.ref 1, .ref 5, .ref 7, .ref 10, .ref 18, .ref 26, .ref 31, .ref 35, .ref 36, .ref 37, .int (nI rk)])), (31, .inr (1, [.ref 32, .ref 33, .ref 34])), (32, .inl (false, 8, (rn n x dn).2)), (33, .inl (false, 8, dd)), (34, .inl (false, 8, db))]) _
  refine E_if_eq (tgt := 53) dX6_due_37 (by decide) (fun c => (b2i_x1 hr c).elim) (fun _ => ?_)
  refine E_aload_n dX6_due_40 rfl ?_
  refine E_get dX6_due_41 fX6_50 (by decide) rfl rfl ?_
  refine E_lload_n dX6_due_44 rfl ?_
  refine E_iload dX6_due_45 rfl ?_
  refine E_callV (As := [.long z, .int (nI n)]) (l' := [.ref 31, .long z, .null, .int (nI n), .null, .null, .null]) (st := []) dX6_due_47 kX6_185 iX1_readDays vX1_readDays (by decide) rfl rfl MX1_readDays rfl rfl (Nat.le_of_ble_eq_true rfl) (FC.use (c_readDays (d + 2) dd z hz n hn) rfl (L2 := [(0, .inr (6, [.ref 1, .ref 5, .ref 7, .ref 10, .ref 18, .ref 26, .ref 31, .ref 35, .ref 36, .ref 37, .int (nI rk)])), (31, .inr (1, [.ref 32, .ref 33, .ref 34])), (32, .inl (false, 8, (rn n x dn).2)), (33, .inl (false, 8, (rd n z dd).2)), (34, .inl (false, 8, db))]) rfl) (Nat.le_of_ble_eq_true rfl) (fun _ _ hq9 => E_fgo ?_ hq9)
  show E _ _ 50 [.ref 0, .int x, .long z, .null, .int (nI n), .int w, .null] [.int (b2i ((rd n z dd).1))] (hov hp [(0, .inr (6, [.ref 1, .ref 5, .ref 7, .ref 10, .ref 18, .ref 26, .ref 31, .ref 35, .ref 36, .ref 37, .int (nI rk)])), (31, .inr (1, [.ref 32, .ref 33, .ref 34])), (32, .inl (false, 8, (rn n x dn).2)), (33, .inl (false, 8, (rd n z dd).2)), (34, .inl (false, 8, db))]) _
  refine E_if_ne (tgt := 56) dX6_due_50 (by decide) (fun c => (b2i_x0 hd c).elim) (fun _ => ?_)
  refine E_bipush (v := (-2)) dX6_due_53 (by decide) ?_
  exact E_iretf dX6_due_55 rfl rfl rfl rfl

set_option maxHeartbeats 4000000 in
set_option maxRecDepth 20000 in
theorem t_due_0 (d : Nat) (rk : Nat) (dn dd db : Nat → Int32) (x : Int32) (z : Int64) (n : Nat) (hn : n ≤ 8) (h0 : inL (Int32.toInt64 (nI n)) 1 8 = true) (hr : (rn n x dn).1 = true) (hz : 0 ≤ z) (hd : (rd n z dd).1 = true) (dv : Nat → Nat) (hdd : ∀ j, j < n → (rd n z dd).2 j = nI (dv j) ∧ dv j ≤ 99) (nv : Nat → Nat) (hdn : ∀ j, j < n → (rn n x dn).2 j = nI (nv j) ∧ nv j ≤ 9) : FR YX6_due (d + 3) [.ref 0, .int x, .long z, .null, .int (nI n), .int 0, .null] [(0, .inr (6, [.ref 1, .ref 5, .ref 7, .ref 10, .ref 18, .ref 26, .ref 31, .ref 35, .ref 36, .ref 37, .int (nI rk)])), (31, .inr (1, [.ref 32, .ref 33, .ref 34])), (32, .inl (false, 8, dn)), (33, .inl (false, 8, dd)), (34, .inl (false, 8, db))] (fun v M => ∃ (g : Nat → Int32) (σ : Nat → Nat), M = [(0, .inr (6, [.ref 1, .ref 5, .ref 7, .ref 10, .ref 18, .ref 26, .ref 31, .ref 35, .ref 36, .ref 37, .int (nI rk)])), (31, .inr (1, [.ref 32, .ref 33, .ref 34])), (32, .inl (false, 8, (rn n x dn).2)), (33, .inl (false, 8, (rd n z dd).2)), (34, .inl (false, 8, g))] ∧ (∀ j, 8 ≤ j → g j = db j) ∧ Srt dv σ n ∧ v = some (.int (bcI (mit (fun x => allB (aiP nv dv σ x) n) (2 ^ n - 1))))) := by
  intro hp
  refine E_iload dX6_due_0 rfl ?_
  refine E_i2l dX6_due_2 ?_
  refine E_lconst (v := 1) dX6_due_3 (by decide) ?_
  refine E_ldc2 dX6_due_4 qX6_180 ?_
  refine E_callS (As := [.long (Int32.toInt64 (nI n)), .long 1, .long 8]) (l' := [.long (Int32.toInt64 (nI n)), .null, .long 1, .null, .long 8, .null]) (st := []) dX6_due_7 kX6_76 sX6_isIn MX6_isIn rfl rfl (Nat.le_of_ble_eq_true rfl) (FC.use (c_isIn (d + 2) _ _ _) rfl (L2 := [(0, .inr (6, [.ref 1, .ref 5, .ref 7, .ref 10, .ref 18, .ref 26, .ref 31, .ref 35, .ref 36, .ref 37, .int (nI rk)])), (31, .inr (1, [.ref 32, .ref 33, .ref 34])), (32, .inl (false, 8, dn)), (33, .inl (false, 8, dd)), (34, .inl (false, 8, db))]) rfl) (Nat.le_of_ble_eq_true rfl) (fun _ _ hq9 => E_fgo ?_ hq9)
  show E _ _ 10 [.ref 0, .int x, .long z, .null, .int (nI n), .int 0, .null] [.int (b2i (inL (Int32.toInt64 (nI n)) 1 8))] (hov hp [(0, .inr (6, [.ref 1, .ref 5, .ref 7, .ref 10, .ref 18, .ref 26, .ref 31, .ref 35, .ref 36, .ref 37, .int (nI rk)])), (31, .inr (1, [.ref 32, .ref 33, .ref 34])), (32, .inl (false, 8, dn)), (33, .inl (false, 8, dd)), (34, .inl (false, 8, db))]) _
  refine E_if_eq (tgt := 24) dX6_due_10 (by decide) (fun c => (b2i_x1 h0 c).elim) (fun _ => ?_)
  refine E_iload dX6_due_13 rfl ?_
  refine E_i2l dX6_due_15 ?_
  refine E_lconst (v := 0) dX6_due_16 (by decide) ?_
  refine E_lconst (v := 1) dX6_due_17 (by decide) ?_
  refine E_callS (As := [.long (Int32.toInt64 0), .long 0, .long 1]) (l' := [.long (Int32.toInt64 0), .null, .long 0, .null, .long 1, .null]) (st := []) dX6_due_18 kX6_76 sX6_isIn MX6_isIn rfl rfl (Nat.le_of_ble_eq_true rfl) (FC.use (c_isIn (d + 2) _ _ _) rfl (L2 := [(0, .inr (6, [.ref 1, .ref 5, .ref 7, .ref 10, .ref 18, .ref 26, .ref 31, .ref 35, .ref 36, .ref 37, .int (nI rk)])), (31, .inr (1, [.ref 32, .ref 33, .ref 34])), (32, .inl (false, 8, dn)), (33, .inl (false, 8, dd)), (34, .inl (false, 8, db))]) rfl) (Nat.le_of_ble_eq_true rfl) (fun _ _ hq9 => E_fgo ?_ hq9)
  show E _ _ 21 [.ref 0, .int x, .long z, .null, .int (nI n), .int 0, .null] [.int (b2i (inL (Int32.toInt64 0) 0 1))] (hov hp [(0, .inr (6, [.ref 1, .ref 5, .ref 7, .ref 10, .ref 18, .ref 26, .ref 31, .ref 35, .ref 36, .ref 37, .int (nI rk)])), (31, .inr (1, [.ref 32, .ref 33, .ref 34])), (32, .inl (false, 8, dn)), (33, .inl (false, 8, dd)), (34, .inl (false, 8, db))]) _
  refine E_if_ne (tgt := 27) dX6_due_21 (by decide) (fun _ => ?_) (fun c => (b2i_x1 (by decide) c).elim)
  refine E_aload_n dX6_due_27 rfl ?_
  refine E_get dX6_due_28 fX6_50 (by decide) rfl rfl ?_
  refine E_iload_n dX6_due_31 rfl ?_
  refine E_iload dX6_due_32 rfl ?_
  refine E_callV (As := [.int x, .int (nI n)]) (l' := [.ref 31, .int x, .int (nI n), .null, .null, .null]) (st := []) dX6_due_34 kX6_182 iX1_readNights vX1_readNights (by decide) rfl rfl MX1_readNights rfl rfl (Nat.le_of_ble_eq_true rfl) (FC.use (c_readNights (d + 2) dn x n hn) rfl (L2 := [(0, .inr (6, [.ref 1, .ref 5, .ref 7, .ref 10, .ref 18, .ref 26, .ref 31, .ref 35, .ref 36, .ref 37, .int (nI rk)])), (31, .inr (1, [.ref 32, .ref 33, .ref 34])), (32, .inl (false, 8, (rn n x dn).2)), (33, .inl (false, 8, dd)), (34, .inl (false, 8, db))]) rfl) (Nat.le_of_ble_eq_true rfl) (fun _ _ hq9 => E_fgo ?_ hq9)
  show E _ _ 37 [.ref 0, .int x, .long z, .null, .int (nI n), .int 0, .null] [.int (b2i ((rn n x dn).1))] (hov hp [(0, .inr (6, [.ref 1, .ref 5, .ref 7, .ref 10, .ref 18, .ref 26, .ref 31, .ref 35, .ref 36, .ref 37, .int (nI rk)])), (31, .inr (1, [.ref 32, .ref 33, .ref 34])), (32, .inl (false, 8, (rn n x dn).2)), (33, .inl (false, 8, dd)), (34, .inl (false, 8, db))]) _
  refine E_if_eq (tgt := 53) dX6_due_37 (by decide) (fun c => (b2i_x1 hr c).elim) (fun _ => ?_)
  refine E_aload_n dX6_due_40 rfl ?_
  refine E_get dX6_due_41 fX6_50 (by decide) rfl rfl ?_
  refine E_lload_n dX6_due_44 rfl ?_
  refine E_iload dX6_due_45 rfl ?_
  refine E_callV (As := [.long z, .int (nI n)]) (l' := [.ref 31, .long z, .null, .int (nI n), .null, .null, .null]) (st := []) dX6_due_47 kX6_185 iX1_readDays vX1_readDays (by decide) rfl rfl MX1_readDays rfl rfl (Nat.le_of_ble_eq_true rfl) (FC.use (c_readDays (d + 2) dd z hz n hn) rfl (L2 := [(0, .inr (6, [.ref 1, .ref 5, .ref 7, .ref 10, .ref 18, .ref 26, .ref 31, .ref 35, .ref 36, .ref 37, .int (nI rk)])), (31, .inr (1, [.ref 32, .ref 33, .ref 34])), (32, .inl (false, 8, (rn n x dn).2)), (33, .inl (false, 8, (rd n z dd).2)), (34, .inl (false, 8, db))]) rfl) (Nat.le_of_ble_eq_true rfl) (fun _ _ hq9 => E_fgo ?_ hq9)
  show E _ _ 50 [.ref 0, .int x, .long z, .null, .int (nI n), .int 0, .null] [.int (b2i ((rd n z dd).1))] (hov hp [(0, .inr (6, [.ref 1, .ref 5, .ref 7, .ref 10, .ref 18, .ref 26, .ref 31, .ref 35, .ref 36, .ref 37, .int (nI rk)])), (31, .inr (1, [.ref 32, .ref 33, .ref 34])), (32, .inl (false, 8, (rn n x dn).2)), (33, .inl (false, 8, (rd n z dd).2)), (34, .inl (false, 8, db))]) _
  refine E_if_ne (tgt := 56) dX6_due_50 (by decide) (fun _ => ?_) (fun c => (b2i_x1 hd c).elim)
  refine E_aload_n dX6_due_56 rfl ?_
  refine E_get dX6_due_57 fX6_50 (by decide) rfl rfl ?_
  refine E_iload dX6_due_60 rfl ?_
  refine E_callV (As := [.int (nI n)]) (l' := [.ref 31, .int (nI n), .null, .null]) (st := []) dX6_due_62 kX6_189 iX1_mostInTime vX1_mostInTime (by decide) rfl rfl MX1_mostInTime rfl rfl (Nat.le_of_ble_eq_true rfl) (FR.use (c_most d n hn (rn n x dn).2 (rd n z dd).2 db dv hdd nv hdn) (L := [(0, .inr (6, [.ref 1, .ref 5, .ref 7, .ref 10, .ref 18, .ref 26, .ref 31, .ref 35, .ref 36, .ref 37, .int (nI rk)])), (31, .inr (1, [.ref 32, .ref 33, .ref 34])), (32, .inl (false, 8, (rn n x dn).2)), (33, .inl (false, 8, (rd n z dd).2)), (34, .inl (false, 8, db))]) rfl) (Nat.le_of_ble_eq_true rfl) ?_
  intro v9 h9 hq9
  obtain ⟨M, rfl, g, σ, rfl, hg, hs, rfl⟩ := hq9
  show E _ _ 65 [.ref 0, .int x, .long z, .null, .int (nI n), .int 0, .null] [.int (mit (fun x => allB (aiP nv dv σ x) n) (2 ^ n - 1))] (hov hp [(0, .inr (6, [.ref 1, .ref 5, .ref 7, .ref 10, .ref 18, .ref 26, .ref 31, .ref 35, .ref 36, .ref 37, .int (nI rk)])), (31, .inr (1, [.ref 32, .ref 33, .ref 34])), (32, .inl (false, 8, (rn n x dn).2)), (33, .inl (false, 8, (rd n z dd).2)), (34, .inl (false, 8, g))]) _
  refine E_istore (l2 := [.ref 0, .int x, .long z, .null, .int (nI n), .int 0, .int (mit (fun x => allB (aiP nv dv σ x) n) (2 ^ n - 1))]) dX6_due_65 (by decide) rfl ?_
  refine E_iload dX6_due_67 rfl ?_
  refine E_if_ne (tgt := 80) dX6_due_69 (by decide) (fun c => by first | exact absurd c (by decide) | exact absurd (by decide) c) (fun _ => ?_)
  refine E_iload dX6_due_72 rfl ?_
  refine E_callS (As := [.int (mit (fun x => allB (aiP nv dv σ x) n) (2 ^ n - 1))]) (l' := [.int (mit (fun x => allB (aiP nv dv σ x) n) (2 ^ n - 1))]) (st := []) dX6_due_74 kX6_98 sJ6_bitCount_0f7a4 MJ6_bitCount_0f7a4 rfl rfl (Nat.le_of_ble_eq_true rfl) (FC.use (c_bitCount (d + 2) _) rfl (L2 := [(0, .inr (6, [.ref 1, .ref 5, .ref 7, .ref 10, .ref 18, .ref 26, .ref 31, .ref 35, .ref 36, .ref 37, .int (nI rk)])), (31, .inr (1, [.ref 32, .ref 33, .ref 34])), (32, .inl (false, 8, (rn n x dn).2)), (33, .inl (false, 8, (rd n z dd).2)), (34, .inl (false, 8, g))]) rfl) (Nat.le_of_ble_eq_true rfl) (fun _ _ hq9 => E_fgo ?_ hq9)
  show E _ _ 77 [.ref 0, .int x, .long z, .null, .int (nI n), .int 0, .int (mit (fun x => allB (aiP nv dv σ x) n) (2 ^ n - 1))] [.int (bcI (mit (fun x => allB (aiP nv dv σ x) n) (2 ^ n - 1)))] (hov hp [(0, .inr (6, [.ref 1, .ref 5, .ref 7, .ref 10, .ref 18, .ref 26, .ref 31, .ref 35, .ref 36, .ref 37, .int (nI rk)])), (31, .inr (1, [.ref 32, .ref 33, .ref 34])), (32, .inl (false, 8, (rn n x dn).2)), (33, .inl (false, 8, (rd n z dd).2)), (34, .inl (false, 8, g))]) _
  refine E_goto (tgt := 82) dX6_due_77 (by decide) ?_
  exact E_iret (st := []) dX6_due_82 rfl rfl ⟨_, rfl, g, σ, rfl, hg, hs, rfl⟩

set_option maxHeartbeats 4000000 in
set_option maxRecDepth 20000 in
theorem t_due_1 (d : Nat) (rk : Nat) (dn dd db : Nat → Int32) (x : Int32) (z : Int64) (n : Nat) (hn : n ≤ 8) (h0 : inL (Int32.toInt64 (nI n)) 1 8 = true) (hr : (rn n x dn).1 = true) (hz : 0 ≤ z) (hd : (rd n z dd).1 = true) (dv : Nat → Nat) (hdd : ∀ j, j < n → (rd n z dd).2 j = nI (dv j) ∧ dv j ≤ 99) (nv : Nat → Nat) (hdn : ∀ j, j < n → (rn n x dn).2 j = nI (nv j) ∧ nv j ≤ 9) : FR YX6_due (d + 3) [.ref 0, .int x, .long z, .null, .int (nI n), .int 1, .null] [(0, .inr (6, [.ref 1, .ref 5, .ref 7, .ref 10, .ref 18, .ref 26, .ref 31, .ref 35, .ref 36, .ref 37, .int (nI rk)])), (31, .inr (1, [.ref 32, .ref 33, .ref 34])), (32, .inl (false, 8, dn)), (33, .inl (false, 8, dd)), (34, .inl (false, 8, db))] (fun v M => ∃ (g : Nat → Int32) (σ : Nat → Nat), M = [(0, .inr (6, [.ref 1, .ref 5, .ref 7, .ref 10, .ref 18, .ref 26, .ref 31, .ref 35, .ref 36, .ref 37, .int (nI rk)])), (31, .inr (1, [.ref 32, .ref 33, .ref 34])), (32, .inl (false, 8, (rn n x dn).2)), (33, .inl (false, 8, (rd n z dd).2)), (34, .inl (false, 8, g))] ∧ (∀ j, 8 ≤ j → g j = db j) ∧ Srt dv σ n ∧ v = some (.int (mit (fun x => allB (aiP nv dv σ x) n) (2 ^ n - 1)))) := by
  intro hp
  refine E_iload dX6_due_0 rfl ?_
  refine E_i2l dX6_due_2 ?_
  refine E_lconst (v := 1) dX6_due_3 (by decide) ?_
  refine E_ldc2 dX6_due_4 qX6_180 ?_
  refine E_callS (As := [.long (Int32.toInt64 (nI n)), .long 1, .long 8]) (l' := [.long (Int32.toInt64 (nI n)), .null, .long 1, .null, .long 8, .null]) (st := []) dX6_due_7 kX6_76 sX6_isIn MX6_isIn rfl rfl (Nat.le_of_ble_eq_true rfl) (FC.use (c_isIn (d + 2) _ _ _) rfl (L2 := [(0, .inr (6, [.ref 1, .ref 5, .ref 7, .ref 10, .ref 18, .ref 26, .ref 31, .ref 35, .ref 36, .ref 37, .int (nI rk)])), (31, .inr (1, [.ref 32, .ref 33, .ref 34])), (32, .inl (false, 8, dn)), (33, .inl (false, 8, dd)), (34, .inl (false, 8, db))]) rfl) (Nat.le_of_ble_eq_true rfl) (fun _ _ hq9 => E_fgo ?_ hq9)
  show E _ _ 10 [.ref 0, .int x, .long z, .null, .int (nI n), .int 1, .null] [.int (b2i (inL (Int32.toInt64 (nI n)) 1 8))] (hov hp [(0, .inr (6, [.ref 1, .ref 5, .ref 7, .ref 10, .ref 18, .ref 26, .ref 31, .ref 35, .ref 36, .ref 37, .int (nI rk)])), (31, .inr (1, [.ref 32, .ref 33, .ref 34])), (32, .inl (false, 8, dn)), (33, .inl (false, 8, dd)), (34, .inl (false, 8, db))]) _
  refine E_if_eq (tgt := 24) dX6_due_10 (by decide) (fun c => (b2i_x1 h0 c).elim) (fun _ => ?_)
  refine E_iload dX6_due_13 rfl ?_
  refine E_i2l dX6_due_15 ?_
  refine E_lconst (v := 0) dX6_due_16 (by decide) ?_
  refine E_lconst (v := 1) dX6_due_17 (by decide) ?_
  refine E_callS (As := [.long (Int32.toInt64 1), .long 0, .long 1]) (l' := [.long (Int32.toInt64 1), .null, .long 0, .null, .long 1, .null]) (st := []) dX6_due_18 kX6_76 sX6_isIn MX6_isIn rfl rfl (Nat.le_of_ble_eq_true rfl) (FC.use (c_isIn (d + 2) _ _ _) rfl (L2 := [(0, .inr (6, [.ref 1, .ref 5, .ref 7, .ref 10, .ref 18, .ref 26, .ref 31, .ref 35, .ref 36, .ref 37, .int (nI rk)])), (31, .inr (1, [.ref 32, .ref 33, .ref 34])), (32, .inl (false, 8, dn)), (33, .inl (false, 8, dd)), (34, .inl (false, 8, db))]) rfl) (Nat.le_of_ble_eq_true rfl) (fun _ _ hq9 => E_fgo ?_ hq9)
  show E _ _ 21 [.ref 0, .int x, .long z, .null, .int (nI n), .int 1, .null] [.int (b2i (inL (Int32.toInt64 1) 0 1))] (hov hp [(0, .inr (6, [.ref 1, .ref 5, .ref 7, .ref 10, .ref 18, .ref 26, .ref 31, .ref 35, .ref 36, .ref 37, .int (nI rk)])), (31, .inr (1, [.ref 32, .ref 33, .ref 34])), (32, .inl (false, 8, dn)), (33, .inl (false, 8, dd)), (34, .inl (false, 8, db))]) _
  refine E_if_ne (tgt := 27) dX6_due_21 (by decide) (fun _ => ?_) (fun c => (b2i_x1 (by decide) c).elim)
  refine E_aload_n dX6_due_27 rfl ?_
  refine E_get dX6_due_28 fX6_50 (by decide) rfl rfl ?_
  refine E_iload_n dX6_due_31 rfl ?_
  refine E_iload dX6_due_32 rfl ?_
  refine E_callV (As := [.int x, .int (nI n)]) (l' := [.ref 31, .int x, .int (nI n), .null, .null, .null]) (st := []) dX6_due_34 kX6_182 iX1_readNights vX1_readNights (by decide) rfl rfl MX1_readNights rfl rfl (Nat.le_of_ble_eq_true rfl) (FC.use (c_readNights (d + 2) dn x n hn) rfl (L2 := [(0, .inr (6, [.ref 1, .ref 5, .ref 7, .ref 10, .ref 18, .ref 26, .ref 31, .ref 35, .ref 36, .ref 37, .int (nI rk)])), (31, .inr (1, [.ref 32, .ref 33, .ref 34])), (32, .inl (false, 8, (rn n x dn).2)), (33, .inl (false, 8, dd)), (34, .inl (false, 8, db))]) rfl) (Nat.le_of_ble_eq_true rfl) (fun _ _ hq9 => E_fgo ?_ hq9)
  show E _ _ 37 [.ref 0, .int x, .long z, .null, .int (nI n), .int 1, .null] [.int (b2i ((rn n x dn).1))] (hov hp [(0, .inr (6, [.ref 1, .ref 5, .ref 7, .ref 10, .ref 18, .ref 26, .ref 31, .ref 35, .ref 36, .ref 37, .int (nI rk)])), (31, .inr (1, [.ref 32, .ref 33, .ref 34])), (32, .inl (false, 8, (rn n x dn).2)), (33, .inl (false, 8, dd)), (34, .inl (false, 8, db))]) _
  refine E_if_eq (tgt := 53) dX6_due_37 (by decide) (fun c => (b2i_x1 hr c).elim) (fun _ => ?_)
  refine E_aload_n dX6_due_40 rfl ?_
  refine E_get dX6_due_41 fX6_50 (by decide) rfl rfl ?_
  refine E_lload_n dX6_due_44 rfl ?_
  refine E_iload dX6_due_45 rfl ?_
  refine E_callV (As := [.long z, .int (nI n)]) (l' := [.ref 31, .long z, .null, .int (nI n), .null, .null, .null]) (st := []) dX6_due_47 kX6_185 iX1_readDays vX1_readDays (by decide) rfl rfl MX1_readDays rfl rfl (Nat.le_of_ble_eq_true rfl) (FC.use (c_readDays (d + 2) dd z hz n hn) rfl (L2 := [(0, .inr (6, [.ref 1, .ref 5, .ref 7, .ref 10, .ref 18, .ref 26, .ref 31, .ref 35, .ref 36, .ref 37, .int (nI rk)])), (31, .inr (1, [.ref 32, .ref 33, .ref 34])), (32, .inl (false, 8, (rn n x dn).2)), (33, .inl (false, 8, (rd n z dd).2)), (34, .inl (false, 8, db))]) rfl) (Nat.le_of_ble_eq_true rfl) (fun _ _ hq9 => E_fgo ?_ hq9)
  show E _ _ 50 [.ref 0, .int x, .long z, .null, .int (nI n), .int 1, .null] [.int (b2i ((rd n z dd).1))] (hov hp [(0, .inr (6, [.ref 1, .ref 5, .ref 7, .ref 10, .ref 18, .ref 26, .ref 31, .ref 35, .ref 36, .ref 37, .int (nI rk)])), (31, .inr (1, [.ref 32, .ref 33, .ref 34])), (32, .inl (false, 8, (rn n x dn).2)), (33, .inl (false, 8, (rd n z dd).2)), (34, .inl (false, 8, db))]) _
  refine E_if_ne (tgt := 56) dX6_due_50 (by decide) (fun _ => ?_) (fun c => (b2i_x1 hd c).elim)
  refine E_aload_n dX6_due_56 rfl ?_
  refine E_get dX6_due_57 fX6_50 (by decide) rfl rfl ?_
  refine E_iload dX6_due_60 rfl ?_
  refine E_callV (As := [.int (nI n)]) (l' := [.ref 31, .int (nI n), .null, .null]) (st := []) dX6_due_62 kX6_189 iX1_mostInTime vX1_mostInTime (by decide) rfl rfl MX1_mostInTime rfl rfl (Nat.le_of_ble_eq_true rfl) (FR.use (c_most d n hn (rn n x dn).2 (rd n z dd).2 db dv hdd nv hdn) (L := [(0, .inr (6, [.ref 1, .ref 5, .ref 7, .ref 10, .ref 18, .ref 26, .ref 31, .ref 35, .ref 36, .ref 37, .int (nI rk)])), (31, .inr (1, [.ref 32, .ref 33, .ref 34])), (32, .inl (false, 8, (rn n x dn).2)), (33, .inl (false, 8, (rd n z dd).2)), (34, .inl (false, 8, db))]) rfl) (Nat.le_of_ble_eq_true rfl) ?_
  intro v9 h9 hq9
  obtain ⟨M, rfl, g, σ, rfl, hg, hs, rfl⟩ := hq9
  show E _ _ 65 [.ref 0, .int x, .long z, .null, .int (nI n), .int 1, .null] [.int (mit (fun x => allB (aiP nv dv σ x) n) (2 ^ n - 1))] (hov hp [(0, .inr (6, [.ref 1, .ref 5, .ref 7, .ref 10, .ref 18, .ref 26, .ref 31, .ref 35, .ref 36, .ref 37, .int (nI rk)])), (31, .inr (1, [.ref 32, .ref 33, .ref 34])), (32, .inl (false, 8, (rn n x dn).2)), (33, .inl (false, 8, (rd n z dd).2)), (34, .inl (false, 8, g))]) _
  refine E_istore (l2 := [.ref 0, .int x, .long z, .null, .int (nI n), .int 1, .int (mit (fun x => allB (aiP nv dv σ x) n) (2 ^ n - 1))]) dX6_due_65 (by decide) rfl ?_
  refine E_iload dX6_due_67 rfl ?_
  refine E_if_ne (tgt := 80) dX6_due_69 (by decide) (fun _ => ?_) (fun c => by first | exact absurd c (by decide) | exact absurd (by decide) c)
  refine E_iload dX6_due_80 rfl ?_
  exact E_iret (st := []) dX6_due_82 rfl rfl ⟨_, rfl, g, σ, rfl, hg, hs, rfl⟩
