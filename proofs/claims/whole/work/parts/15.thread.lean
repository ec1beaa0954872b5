/-! threads: what fits, what is left -/
def colI (a b n : Int32) : Int32 := rmI (a + b * n) 7
def colN (c n : Nat) : Nat := (c / 10 + c % 10 * n) % 7
theorem col_N {c n : Nat} (hc : c < 70) (hn : n ≤ 20) : colI (nI (c / 10)) (nI (c % 10)) (nI n) = nI (colN c n) := by
  unfold colI colN
  rw [pk_mul, nI_add]
  have h1 : c % 10 * n ≤ 9 * 20 := Nat.mul_le_mul (by omega) hn
  exact nI_r (d := 7) (by omega) (by decide) (by decide)
def allB (p : Nat → Bool) : Nat → Bool
  | 0 => true
  | n + 1 => allB p n && p n
theorem allB_t {p : Nat → Bool} {n : Nat} (h : ∀ i, i < n → p i = true) : allB p n = true := by
  induction n with
  | zero => rfl
  | succ n ih => rw [allB, ih (fun i hi => h i (by omega)), h n (by omega)]; rfl
theorem allB_f {p : Nat → Bool} {n i : Nat} (hi : i < n) (h : p i = false) : allB p n = false := by
  induction n with
  | zero => omega
  | succ n ih =>
    rw [allB]
    by_cases e : i = n
    · subst e; rw [h]; simp
    · rw [ih (by omega)]; rfl
theorem allB_iff {p : Nat → Bool} {n : Nat} : allB p n = true ↔ ∀ i, i < n → p i = true := by
  refine ⟨fun h i hi => ?_, allB_t⟩
  cases hp : p i with
  | true => rfl
  | false => rw [allB_f hi hp] at h; cases h
def fitP (sn sc : Nat → Int32) (a b : Nat) (i : Nat) : Bool := decide (colI (nI a) (nI b) (sn i) = sc i)
def fitB (sn sc : Nat → Int32) (q a b : Nat) : Bool := allB (fitP sn sc a b) q
/-- the list of the first c pairs that fit, by their codes; the row -/
def fcL (p : Nat → Nat → Bool) : Nat → List Nat
  | 0 => []
  | c + 1 => fcL p c ++ (bif p (c / 7) (c % 7) then [10 * (c / 7) + c % 7] else [])
def frL (p : Nat → Nat → Bool) (f : Nat → Int32) : Nat → Nat → Int32
  | 0 => f
  | c + 1 => bif p (c / 7) (c % 7) then upd (frL p f c) (fcL p c).length (nI (10 * (c / 7) + c % 7)) else frL p f c
theorem fcL_len (p : Nat → Nat → Bool) : ∀ c, (fcL p c).length ≤ c
  | 0 => Nat.le_refl _
  | c + 1 => by
    have := fcL_len p c
    rw [fcL, List.length_append]
    cases p (c / 7) (c % 7) <;> simp <;> omega
theorem fc_t {p : Nat → Nat → Bool} {i j : Nat} (hj : j < 7) (h : p i j = true) : (fcL p (7 * i + j + 1)).length = (fcL p (7 * i + j)).length + 1 := by
  rw [fcL, show (7 * i + j) / 7 = i by omega, show (7 * i + j) % 7 = j by omega, h]
  simp
theorem fc_f {p : Nat → Nat → Bool} {i j : Nat} (hj : j < 7) (h : p i j = false) : (fcL p (7 * i + j + 1)).length = (fcL p (7 * i + j)).length := by
  rw [fcL, show (7 * i + j) / 7 = i by omega, show (7 * i + j) % 7 = j by omega, h]
  simp
theorem fr_t {p : Nat → Nat → Bool} {f : Nat → Int32} {i j : Nat} (hj : j < 7) (h : p i j = true) : frL p f (7 * i + j + 1) = upd (frL p f (7 * i + j)) (fcL p (7 * i + j)).length (nI (10 * i + j)) := by
  rw [frL, show (7 * i + j) / 7 = i by omega, show (7 * i + j) % 7 = j by omega, h]
  rfl
theorem fr_f {p : Nat → Nat → Bool} {f : Nat → Int32} {i j : Nat} (hj : j < 7) (h : p i j = false) : frL p f (7 * i + j + 1) = frL p f (7 * i + j) := by
  rw [frL, show (7 * i + j) / 7 = i by omega, show (7 * i + j) % 7 = j by omega, h]
  rfl
theorem fr_get {p : Nat → Nat → Bool} {f : Nat → Int32} : ∀ (c k : Nat), k < (fcL p c).length → frL p f c k = nI ((fcL p c).getD k 0)
  | 0, k, h => by simp [fcL] at h
  | c + 1, k, h => by
    rw [frL, fcL]
    rw [fcL] at h
    cases hp : p (c / 7) (c % 7) with
    | false =>
      rw [hp] at h
      simp only [cond_false, List.append_nil] at h ⊢
      exact fr_get c k h
    | true =>
      rw [hp] at h
      simp only [cond_true, List.length_append, List.length_singleton] at h
      show upd (frL p f c) (fcL p c).length (nI (10 * (c / 7) + c % 7)) k = nI ((fcL p c ++ [10 * (c / 7) + c % 7]).getD k 0)
      simp only [upd]
      by_cases e : k = (fcL p c).length
      · subst e
        rw [if_pos rfl]
        simp
      · rw [if_neg e, fr_get c k (by omega)]
        simp [List.getElem?_append_left (show k < (fcL p c).length by omega)]
theorem fr_out {p : Nat → Nat → Bool} {f : Nat → Int32} : ∀ (c k : Nat), c ≤ k → frL p f c k = f k
  | 0, k, _ => rfl
  | c + 1, k, h => by
    rw [frL]
    have := fcL_len p c
    cases p (c / 7) (c % 7) with
    | false => exact fr_out c k (by omega)
    | true =>
      show upd (frL p f c) (fcL p c).length _ k = _
      simp only [upd]
      rw [if_neg (by omega)]
      exact fr_out c k (by omega)
theorem fcL_lt {p : Nat → Nat → Bool} : ∀ (c k : Nat), c ≤ 49 → (fcL p c).getD k 0 < 70
  | 0, k, _ => by simp [fcL]
  | c + 1, k, h => by
    rw [fcL]
    cases p (c / 7) (c % 7) with
    | false => simp only [cond_false, List.append_nil]; exact fcL_lt c k (by omega)
    | true =>
      simp only [cond_true]
      by_cases e : k < (fcL p c).length
      · have := fcL_lt (p := p) c k (by omega)
        rw [List.getD_eq_getElem?_getD, List.getElem?_append_left e, ← List.getD_eq_getElem?_getD]
        exact this
      · rw [List.getD_eq_getElem?_getD, List.getElem?_append_right (by omega)]
        by_cases e2 : k - (fcL p c).length = 0
        · rw [e2]
          simp
          omega
        · rw [List.getElem?_eq_none (by simp; omega)]
          simp
def updN (c : Nat → Nat) (k x : Nat) : Nat → Nat := fun j => if j = k then x else c j
theorem upd_nI (c : Nat → Nat) (k x : Nat) : upd (fun j => nI (c j)) k (nI x) = fun j => nI (updN c k x j) := by
  funext j
  simp only [upd, updN]
  by_cases h : j = k
  · rw [if_pos h, if_pos h]
  · rw [if_neg h, if_neg h]
theorem max_nI {a b : Nat} (ha : a < 2 ^ 31) (hb : b < 2 ^ 31) : maxI (nI a) (nI b) = nI (max a b) := by
  unfold maxI
  by_cases h : a < b
  · rw [if_pos (nI_lt h hb), Nat.max_eq_right (by omega)]
  · rw [if_neg (nI_nlt (by omega) ha), Nat.max_eq_left (by omega)]
/-- what is left at the most, when a night's colour is told -/
def ml (cd : Nat → Nat) (n : Nat) : Nat → (Nat → Nat) × Nat
  | 0 => (fun _ => 0, 0)
  | i + 1 => (updN (ml cd n i).1 (colN (cd i) n) ((ml cd n i).1 (colN (cd i) n) + 1), max (ml cd n i).2 ((ml cd n i).1 (colN (cd i) n) + 1))
theorem ml_le {cd : Nat → Nat} {n : Nat} : ∀ i, (∀ k, (ml cd n i).1 k ≤ i) ∧ (ml cd n i).2 ≤ i
  | 0 => ⟨fun _ => Nat.le_refl _, Nat.le_refl _⟩
  | i + 1 => by
    obtain ⟨h1, h2⟩ := ml_le (cd := cd) (n := n) i
    refine ⟨fun k => ?_, ?_⟩
    · show updN _ _ _ k ≤ _
      simp only [updN]
      by_cases h : k = colN (cd i) n
      · rw [if_pos h]; have := h1 (colN (cd i) n); omega
      · rw [if_neg h]; have := h1 k; omega
    · show max _ _ ≤ _
      have := h1 (colN (cd i) n)
      omega
theorem ml_z {cd : Nat → Nat} {n : Nat} : ∀ i j, 7 ≤ j → (ml cd n i).1 j = 0
  | 0, j, _ => rfl
  | i + 1, j, h => by
    show updN _ _ _ j = _
    simp only [updN]
    have : colN (cd i) n < 7 := Nat.mod_lt _ (by decide)
    rw [if_neg (by omega)]
    exact ml_z i j h
theorem ml1_t {cd : Nat → Nat} {n i k : Nat} (h : colN (cd i) n = k) : (ml cd n (i + 1)).1 k = (ml cd n i).1 k + 1 := by
  subst h
  show updN _ _ _ _ = _
  simp [updN]
theorem ml1_f {cd : Nat → Nat} {n i k : Nat} (h : ¬ colN (cd i) n = k) : (ml cd n (i + 1)).1 k = (ml cd n i).1 k := by
  show updN _ _ _ k = _
  simp only [updN]
  rw [if_neg (fun e => h e.symm)]
/-- the most of the first c counts -/
def mxF (f : Nat → Nat) : Nat → Nat
  | 0 => 0
  | c + 1 => max (mxF f c) (f c)
theorem mxF_le {f : Nat → Nat} {b : Nat} (h : ∀ k, f k ≤ b) : ∀ c, mxF f c ≤ b
  | 0 => Nat.zero_le _
  | c + 1 => by
    have h1 := mxF_le h c
    have h2 := h c
    rw [mxF]; omega
theorem mxF_u {f : Nat → Nat} {k x : Nat} (hx : f k ≤ x) : ∀ c, mxF (updN f k x) c = if k < c then max (mxF f c) x else mxF f c
  | 0 => by rw [if_neg (by omega)]; rfl
  | c + 1 => by
    rw [mxF, mxF, mxF_u hx c]
    simp only [updN]
    by_cases e : c = k
    · subst e
      rw [if_neg (Nat.lt_irrefl _), if_pos rfl, if_pos (by omega)]; omega
    · rw [if_neg e]
      by_cases g : k < c
      · rw [if_pos g, if_pos (by omega)]; omega
      · rw [if_neg g, if_neg (by omega)]
theorem mxF_z : ∀ c, mxF (fun _ => 0) c = 0
  | 0 => rfl
  | c + 1 => by rw [mxF, mxF_z c]; rfl
theorem ml_mx {cd : Nat → Nat} {n : Nat} : ∀ i, mxF (ml cd n i).1 7 = (ml cd n i).2
  | 0 => mxF_z 7
  | i + 1 => by
    show mxF (updN (ml cd n i).1 (colN (cd i) n) ((ml cd n i).1 (colN (cd i) n) + 1)) 7 = max (ml cd n i).2 ((ml cd n i).1 (colN (cd i) n) + 1)
    have hk : colN (cd i) n < 7 := Nat.mod_lt _ (by decide)
    rw [mxF_u (Nat.le_add_right _ 1) 7, if_pos hk, ml_mx i]
/-- the night to ask about next, and how many are left -/
def ak (cd : Nat → Nat) (m : Nat) : Nat → Int32 × Nat
  | 0 => (-6, 50)
  | i + 1 => if (ml cd i m).2 < (ak cd m i).2 then (nI i, (ml cd i m).2) else ak cd m i
theorem ak_le {cd : Nat → Nat} {m : Nat} (hm : m ≤ 49) : ∀ i, (ak cd m i).2 ≤ 50
  | 0 => Nat.le_refl _
  | i + 1 => by
    rw [ak]
    have := (ml_le (cd := cd) (n := i) m).2
    by_cases h : (ml cd i m).2 < (ak cd m i).2
    · rw [if_pos h]; show (ml cd i m).2 ≤ 50; omega
    · rw [if_neg h]; exact ak_le hm i
def ccA (cc : Nat → Int32) (cd : Nat → Nat) (m : Nat) : Nat → Nat → Int32
  | 0 => cc
  | i + 1 => fun j => nI ((ml cd i m).1 j)
theorem ccA_z {cc : Nat → Int32} {cd : Nat → Nat} {m : Nat} (h : ∀ j, 7 ≤ j → cc j = 0) : ∀ i j, 7 ≤ j → ccA cc cd m i j = 0
  | 0, j, hj => h j hj
  | i + 1, j, hj => by show nI _ = 0; rw [ml_z _ _ hj]; rfl

set_option maxHeartbeats 4000000 in
set_option maxRecDepth 20000 in
theorem c_colourOf (d : Nat) (a b n : Int32) : FC YX6_colourOf d [.int a, .int b, .int n] [] (some (.int (colI a b n))) [] := by
  intro hp
  refine E_iload_n dX6_colourOf_0 rfl ?_
  refine E_iload_n dX6_colourOf_1 rfl ?_
  refine E_iload_n dX6_colourOf_2 rfl ?_
  refine E_imul dX6_colourOf_3 ?_
  refine E_iadd dX6_colourOf_4 ?_
  refine E_bipush (v := 7) dX6_colourOf_5 (by decide) ?_
  refine E_irem dX6_colourOf_7 (by decide) ?_
  exact E_iretf dX6_colourOf_8 rfl rfl rfl rfl

set_option maxHeartbeats 4000000 in
set_option maxRecDepth 20000 in
theorem c_fit (d : Nat) (sn sc : Nat → Int32) (q : Nat) (hq : q ≤ 8) (a b : Nat) : FC YX4_fit (d + 1) [.ref 7, .int (nI a), .int (nI b), .null] [(7, .inr (4, [.ref 8, .ref 9, .int (nI q)])), (8, .inl (false, 8, sn)), (9, .inl (false, 8, sc))] (some (.int (b2i (fitB sn sc q a b)))) [(7, .inr (4, [.ref 8, .ref 9, .int (nI q)])), (8, .inl (false, 8, sn)), (9, .inl (false, 8, sc))] := by
  intro hp
  refine E_iconst (v := 0) dX4_fit_0 (by decide) ?_
  refine E_istore_n (l2 := [.ref 7, .int (nI a), .int (nI b), .int 0]) dX4_fit_1 rfl (by decide) rfl ?_
  have L : ∀ i, i ≤ q → (∀ x, x < i → fitP sn sc a b x = true) → E YX4_fit (d + 1) 2 [.ref 7, .int (nI a), .int (nI b), .int (nI i)] [] (hov hp [(7, .inr (4, [.ref 8, .ref 9, .int (nI q)])), (8, .inl (false, 8, sn)), (9, .inl (false, 8, sc))]) (fun v h' => v = some (.int (b2i (fitB sn sc q a b))) ∧ h' = hov hp [(7, .inr (4, [.ref 8, .ref 9, .int (nI q)])), (8, .inl (false, 8, sn)), (9, .inl (false, 8, sc))]) := by
    refine down q ?_ ?_
    · intro hall
      refine E_iload_n dX4_fit_2 rfl ?_
      refine E_aload_n dX4_fit_3 rfl ?_
      refine E_get dX4_fit_4 fX4_18 (by decide) rfl rfl ?_
      refine E_icmp_ge (tgt := 44) dX4_fit_7 (by decide) (fun _ => ?_) (fun c => absurd (nI_le (Nat.le_refl _) (by omega)) c)
      refine E_iconst (v := 1) dX4_fit_44 (by decide) ?_
      exact E_iretf dX4_fit_45 rfl (b2i_nar _) (b2i_t (allB_t hall)) rfl
    · intro i hi ih hall
      refine E_iload_n dX4_fit_2 rfl ?_
      refine E_aload_n dX4_fit_3 rfl ?_
      refine E_get dX4_fit_4 fX4_18 (by decide) rfl rfl ?_
      refine E_icmp_ge (tgt := 44) dX4_fit_7 (by decide) (fun c => absurd c (nI_ge hi (by omega))) (fun _ => ?_)
      refine E_iload_n dX4_fit_10 rfl ?_
      refine E_bipush (v := 8) dX4_fit_11 (by decide) ?_
      refine E_icmp_ge (tgt := 44) dX4_fit_13 (by decide) (fun c => absurd c (cI_nle (n := 8) rfl (by omega) (by decide))) (fun _ => ?_)
      refine E_iload_n dX4_fit_16 rfl ?_
      refine E_iload_n dX4_fit_17 rfl ?_
      refine E_aload_n dX4_fit_18 rfl ?_
      refine E_get dX4_fit_19 fX4_9 (by decide) rfl rfl ?_
      refine E_iload_n dX4_fit_22 rfl ?_
      refine E_ialdN (j := i) dX4_fit_23 (by decide) rfl (by omega) (by decide) ?_
      refine E_callN (As := [.int (nI a), .int (nI b), .int (sn i)]) (l' := [.int (nI a), .int (nI b), .int (sn i)]) (st := []) dX4_fit_24 nX4_22 sX6_colourOf MX6_colourOf rfl rfl (Nat.le_of_ble_eq_true rfl) (FC.use (c_colourOf d _ _ _) rfl (L2 := [(7, .inr (4, [.ref 8, .ref 9, .int (nI q)])), (8, .inl (false, 8, sn)), (9, .inl (false, 8, sc))]) rfl) (Nat.le_of_ble_eq_true rfl) (fun _ _ hq9 => E_fgo ?_ hq9)
      show E _ _ 27 [.ref 7, .int (nI a), .int (nI b), .int (nI i)] [.int (colI (nI a) (nI b) (sn i))] (hov hp [(7, .inr (4, [.ref 8, .ref 9, .int (nI q)])), (8, .inl (false, 8, sn)), (9, .inl (false, 8, sc))]) _
      refine E_aload_n dX4_fit_27 rfl ?_
      refine E_get dX4_fit_28 fX4_15 (by decide) rfl rfl ?_
      refine E_iload_n dX4_fit_31 rfl ?_
      refine E_ialdN (j := i) dX4_fit_32 (by decide) rfl (by omega) (by decide) ?_
      refine E_icmp_eq (tgt := 38) dX4_fit_33 (by decide) (fun c33 => ?_) (fun c33 => ?_)
      · refine E_iinc (y := nI (i + 1)) (l2 := [.ref 7, .int (nI a), .int (nI b), .int (nI (i + 1))]) dX4_fit_38 rfl (nI_1 _) (by decide) rfl ?_
        refine E_goto (tgt := 2) dX4_fit_41 (by decide) ?_
        exact ih (fun x hx => by rcases Nat.lt_succ_iff_lt_or_eq.mp hx with h | h; exact hall x h; subst h; exact decide_eq_true c33)
      · refine E_iconst (v := 0) dX4_fit_36 (by decide) ?_
        exact E_iretf dX4_fit_37 rfl (b2i_nar _) (b2i_f (allB_f hi (decide_eq_false c33))) rfl
  exact L 0 (by omega) (fun x hx => by omega)

set_option maxHeartbeats 4000000 in
set_option maxRecDepth 20000 in
theorem c_list (d : Nat) (sn sc fi : Nat → Int32) (q : Nat) (hq : q ≤ 8) : FC YX4_listFitting (d + 2) [.ref 7, .ref 35, .null, .null, .null] [(7, .inr (4, [.ref 8, .ref 9, .int (nI q)])), (8, .inl (false, 8, sn)), (9, .inl (false, 8, sc)), (35, .inl (false, 49, fi))] (some (.int (nI ((fcL (fitB sn sc q) 49).length)))) [(7, .inr (4, [.ref 8, .ref 9, .int (nI q)])), (8, .inl (false, 8, sn)), (9, .inl (false, 8, sc)), (35, .inl (false, 49, (frL (fitB sn sc q) fi 49)))] := by
  intro hp
  refine E_iconst (v := 0) dX4_listFitting_0 (by decide) ?_
  refine E_istore_n (l2 := [.ref 7, .ref 35, .int 0, .null, .null]) dX4_listFitting_1 rfl (by decide) rfl ?_
  refine E_iconst (v := 0) dX4_listFitting_2 (by decide) ?_
  refine E_istore_n (l2 := [.ref 7, .ref 35, .int 0, .int 0, .null]) dX4_listFitting_3 rfl (by decide) rfl ?_
  have LO : ∀ i, i ≤ 7 → ∀ l4 : Value, E YX4_listFitting (d + 2) 4 [.ref 7, .ref 35, .int (nI ((fcL (fitB sn sc q) (7 * i)).length)), .int (nI i), l4] [] (hov hp [(7, .inr (4, [.ref 8, .ref 9, .int (nI q)])), (8, .inl (false, 8, sn)), (9, .inl (false, 8, sc)), (35, .inl (false, 49, (frL (fitB sn sc q) fi (7 * i))))]) (fun v h' => v = some (.int (nI ((fcL (fitB sn sc q) 49).length))) ∧ h' = hov hp [(7, .inr (4, [.ref 8, .ref 9, .int (nI q)])), (8, .inl (false, 8, sn)), (9, .inl (false, 8, sc)), (35, .inl (false, 49, (frL (fitB sn sc q) fi 49)))]) := by
    refine down 7 ?_ ?_
    · intro l4
      refine E_iload_n dX4_listFitting_4 rfl ?_
      refine E_bipush (v := 7) dX4_listFitting_5 (by decide) ?_
      refine E_icmp_ge (tgt := 61) dX4_listFitting_7 (by decide) (fun _ => ?_) (fun c => absurd (by decide) c)
      refine E_iload_n dX4_listFitting_61 rfl ?_
      exact E_iretf dX4_listFitting_62 rfl rfl rfl rfl
    · intro i hi ih l4
      refine E_iload_n dX4_listFitting_4 rfl ?_
      refine E_bipush (v := 7) dX4_listFitting_5 (by decide) ?_
      refine E_icmp_ge (tgt := 61) dX4_listFitting_7 (by decide) (fun c => absurd c (cI_nle (n := 7) rfl hi (by decide))) (fun _ => ?_)
      refine E_iconst (v := 0) dX4_listFitting_10 (by decide) ?_
      refine E_istore (l2 := [.ref 7, .ref 35, .int (nI ((fcL (fitB sn sc q) (7 * i)).length)), .int (nI i), .int 0]) dX4_listFitting_11 (by decide) rfl ?_
      have LI : ∀ j, j ≤ 7 → E YX4_listFitting (d + 2) 13 [.ref 7, .ref 35, .int (nI ((fcL (fitB sn sc q) (7 * i + j)).length)), .int (nI i), .int (nI j)] [] (hov hp [(7, .inr (4, [.ref 8, .ref 9, .int (nI q)])), (8, .inl (false, 8, sn)), (9, .inl (false, 8, sc)), (35, .inl (false, 49, (frL (fitB sn sc q) fi (7 * i + j))))]) (fun v h' => v = some (.int (nI ((fcL (fitB sn sc q) 49).length))) ∧ h' = hov hp [(7, .inr (4, [.ref 8, .ref 9, .int (nI q)])), (8, .inl (false, 8, sn)), (9, .inl (false, 8, sc)), (35, .inl (false, 49, (frL (fitB sn sc q) fi 49)))]) := by
        refine down 7 ?_ ?_
        · refine E_iload dX4_listFitting_13 rfl ?_
          refine E_bipush (v := 7) dX4_listFitting_15 (by decide) ?_
          refine E_icmp_ge (tgt := 55) dX4_listFitting_17 (by decide) (fun _ => ?_) (fun c => absurd (by decide) c)
          refine E_iinc (y := nI (i + 1)) (l2 := [.ref 7, .ref 35, .int (nI ((fcL (fitB sn sc q) (7 * i + 7)).length)), .int (nI (i + 1)), .int (nI 7)]) dX4_listFitting_55 rfl (nI_1 _) (by decide) rfl ?_
          refine E_goto (tgt := 4) dX4_listFitting_58 (by decide) ?_
          have e9 := ih (.int (nI 7))
          rw [Nat.mul_succ] at e9
          exact e9
        · intro j hj ihj
          have hlen := fcL_len (fitB sn sc q) (7 * i + j)
          refine E_iload dX4_listFitting_13 rfl ?_
          refine E_bipush (v := 7) dX4_listFitting_15 (by decide) ?_
          refine E_icmp_ge (tgt := 55) dX4_listFitting_17 (by decide) (fun c => absurd c (cI_nle (n := 7) rfl hj (by decide))) (fun _ => ?_)
          refine E_iload_n dX4_listFitting_20 rfl ?_
          refine E_aload_n dX4_listFitting_21 rfl ?_
          refine E_alen (v := 49) dX4_listFitting_22 (by decide) rfl (by decide) ?_
          refine E_icmp_ge (tgt := 49) dX4_listFitting_23 (by decide) (fun c => absurd c (cI_nle (n := 49) rfl (by omega) (by decide))) (fun _ => ?_)
          refine E_aload_n dX4_listFitting_26 rfl ?_
          refine E_iload_n dX4_listFitting_27 rfl ?_
          refine E_iload dX4_listFitting_28 rfl ?_
          refine E_callV (As := [.int (nI i), .int (nI j)]) (l' := [.ref 7, .int (nI i), .int (nI j), .null]) (st := []) dX4_listFitting_30 kX4_26 iX4_fit vX4_fit (by decide) rfl rfl MX4_fit rfl rfl (Nat.le_of_ble_eq_true rfl) (FC.use (c_fit d sn sc q hq i j) rfl (L2 := [(7, .inr (4, [.ref 8, .ref 9, .int (nI q)])), (8, .inl (false, 8, sn)), (9, .inl (false, 8, sc)), (35, .inl (false, 49, (frL (fitB sn sc q) fi (7 * i + j))))]) rfl) (Nat.le_of_ble_eq_true rfl) (fun _ _ hq9 => E_fgo ?_ hq9)
          show E _ _ 33 [.ref 7, .ref 35, .int (nI ((fcL (fitB sn sc q) (7 * i + j)).length)), .int (nI i), .int (nI j)] [.int (b2i (fitB sn sc q i j))] (hov hp [(7, .inr (4, [.ref 8, .ref 9, .int (nI q)])), (8, .inl (false, 8, sn)), (9, .inl (false, 8, sc)), (35, .inl (false, 49, (frL (fitB sn sc q) fi (7 * i + j))))]) _
          refine E_if_eq (tgt := 49) dX4_listFitting_33 (by decide) (fun c33 => ?_) (fun c33 => ?_)
          · have c33 := b2i_e0 c33
            refine E_iinc (y := nI (j + 1)) (l2 := [.ref 7, .ref 35, .int (nI ((fcL (fitB sn sc q) (7 * i + j)).length)), .int (nI i), .int (nI (j + 1))]) dX4_listFitting_49 rfl (nI_1 _) (by decide) rfl ?_
            refine E_goto (tgt := 13) dX4_listFitting_52 (by decide) ?_
            rw [← Nat.add_assoc, fc_f hj c33, fr_f hj c33] at ihj
            exact ihj
          · have c33 := b2i_n0 c33
            refine E_aload_n dX4_listFitting_36 rfl ?_
            refine E_iload_n dX4_listFitting_37 rfl ?_
            refine E_bipush (v := 10) dX4_listFitting_38 (by decide) ?_
            refine E_iload_n dX4_listFitting_40 rfl ?_
            refine E_imul dX4_listFitting_41 ?_
            refine E_eqi (y := nI (10 * i)) (pk_mul 10 i) ?_
            refine E_iload dX4_listFitting_42 rfl ?_
            refine E_iadd dX4_listFitting_44 ?_
            refine E_eqi (y := nI (10 * i + j)) (nI_add _ _) ?_
            refine E_iastN (j := (fcL (fitB sn sc q) (7 * i + j)).length) (f2 := upd (frL (fitB sn sc q) fi (7 * i + j)) ((fcL (fitB sn sc q) (7 * i + j)).length) (nI (10 * i + j))) (L2 := [(7, .inr (4, [.ref 8, .ref 9, .int (nI q)])), (8, .inl (false, 8, sn)), (9, .inl (false, 8, sc)), (35, .inl (false, 49, (upd (frL (fitB sn sc q) fi (7 * i + j)) ((fcL (fitB sn sc q) (7 * i + j)).length) (nI (10 * i + j)))))]) dX4_listFitting_45 (by decide) rfl (by omega) (by decide) rfl rfl ?_
            refine E_iinc (y := nI ((fcL (fitB sn sc q) (7 * i + j)).length + 1)) (l2 := [.ref 7, .ref 35, .int (nI ((fcL (fitB sn sc q) (7 * i + j)).length + 1)), .int (nI i), .int (nI j)]) dX4_listFitting_46 rfl (nI_1 _) (by decide) rfl ?_
            refine E_iinc (y := nI (j + 1)) (l2 := [.ref 7, .ref 35, .int (nI ((fcL (fitB sn sc q) (7 * i + j)).length + 1)), .int (nI i), .int (nI (j + 1))]) dX4_listFitting_49 rfl (nI_1 _) (by decide) rfl ?_
            refine E_goto (tgt := 13) dX4_listFitting_52 (by decide) ?_
            rw [← Nat.add_assoc, fc_t hj c33, fr_t hj c33] at ihj
            exact ihj
      exact LI 0 (by decide)
  exact LO 0 (by decide) _

set_option maxHeartbeats 4000000 in
set_option maxRecDepth 20000 in
theorem t_mat_all (d : Nat) (rk : Nat) (sn sc fi : Nat → Int32) (q : Nat) (hq : q ≤ 8)  : FC YX6_matter (d + 3) [.ref 0, .int (-1), .null] [(0, .inr (6, [.ref 1, .ref 5, .ref 7, .ref 10, .ref 18, .ref 26, .ref 31, .ref 35, .ref 37, .int (nI rk)])), (7, .inr (4, [.ref 8, .ref 9, .int (nI q)])), (8, .inl (false, 8, sn)), (9, .inl (false, 8, sc)), (35, .inl (false, 49, fi))] (some (.int (nI ((fcL (fitB sn sc q) 49).length)))) [(0, .inr (6, [.ref 1, .ref 5, .ref 7, .ref 10, .ref 18, .ref 26, .ref 31, .ref 35, .ref 37, .int (nI rk)])), (7, .inr (4, [.ref 8, .ref 9, .int (nI q)])), (8, .inl (false, 8, sn)), (9, .inl (false, 8, sc)), (35, .inl (false, 49, (frL (fitB sn sc q) fi 49)))] := by
  intro hp
  refine E_aload_n dX6_matter_0 rfl ?_
  refine E_get dX6_matter_1 fX6_26 (by decide) rfl rfl ?_
  refine E_aload_n dX6_matter_4 rfl ?_
  refine E_get dX6_matter_5 fX6_54 (by decide) rfl rfl ?_
  refine E_callV (As := [.ref 35]) (l' := [.ref 7, .ref 35, .null, .null, .null]) (st := []) dX6_matter_8 kX6_207 iX4_listFitting vX4_listFitting (by decide) rfl rfl MX4_listFitting rfl rfl (Nat.le_of_ble_eq_true rfl) (FC.use (c_list d sn sc fi q hq) rfl (L2 := [(0, .inr (6, [.ref 1, .ref 5, .ref 7, .ref 10, .ref 18, .ref 26, .ref 31, .ref 35, .ref 37, .int (nI rk)])), (7, .inr (4, [.ref 8, .ref 9, .int (nI q)])), (8, .inl (false, 8, sn)), (9, .inl (false, 8, sc)), (35, .inl (false, 49, (frL (fitB sn sc q) fi 49)))]) rfl) (Nat.le_of_ble_eq_true rfl) (fun _ _ hq9 => E_fgo ?_ hq9)
  show E _ _ 11 [.ref 0, .int (-1), .null] [.int (nI ((fcL (fitB sn sc q) 49).length))] (hov hp [(0, .inr (6, [.ref 1, .ref 5, .ref 7, .ref 10, .ref 18, .ref 26, .ref 31, .ref 35, .ref 37, .int (nI rk)])), (7, .inr (4, [.ref 8, .ref 9, .int (nI q)])), (8, .inl (false, 8, sn)), (9, .inl (false, 8, sc)), (35, .inl (false, 49, (frL (fitB sn sc q) fi 49)))]) _
  refine E_istore_n (l2 := [.ref 0, .int (-1), .int (nI ((fcL (fitB sn sc q) 49).length))]) dX6_matter_11 rfl (by decide) rfl ?_
  refine E_iload_n dX6_matter_12 rfl ?_
  refine E_iconst (v := (-1)) dX6_matter_13 (by decide) ?_
  refine E_icmp_ne (tgt := 19) dX6_matter_14 (by decide) (fun c => by first | exact absurd c (by decide) | exact absurd (by decide) c) (fun _ => ?_)
  refine E_iload_n dX6_matter_17 rfl ?_
  exact E_iretf dX6_matter_18 rfl rfl rfl rfl

set_option maxHeartbeats 4000000 in
set_option maxRecDepth 20000 in
theorem t_mat_in (d : Nat) (rk : Nat) (sn sc fi : Nat → Int32) (q : Nat) (hq : q ≤ 8) (k : Nat) (hk : k < (fcL (fitB sn sc q) 49).length) (h1 : ¬ nI k = -1) : FC YX6_matter (d + 3) [.ref 0, .int (nI k), .null] [(0, .inr (6, [.ref 1, .ref 5, .ref 7, .ref 10, .ref 18, .ref 26, .ref 31, .ref 35, .ref 37, .int (nI rk)])), (7, .inr (4, [.ref 8, .ref 9, .int (nI q)])), (8, .inl (false, 8, sn)), (9, .inl (false, 8, sc)), (35, .inl (false, 49, fi))] (some (.int (frL (fitB sn sc q) fi 49 k))) [(0, .inr (6, [.ref 1, .ref 5, .ref 7, .ref 10, .ref 18, .ref 26, .ref 31, .ref 35, .ref 37, .int (nI rk)])), (7, .inr (4, [.ref 8, .ref 9, .int (nI q)])), (8, .inl (false, 8, sn)), (9, .inl (false, 8, sc)), (35, .inl (false, 49, (frL (fitB sn sc q) fi 49)))] := by
  intro hp
  refine E_aload_n dX6_matter_0 rfl ?_
  refine E_get dX6_matter_1 fX6_26 (by decide) rfl rfl ?_
  refine E_aload_n dX6_matter_4 rfl ?_
  refine E_get dX6_matter_5 fX6_54 (by decide) rfl rfl ?_
  refine E_callV (As := [.ref 35]) (l' := [.ref 7, .ref 35, .null, .null, .null]) (st := []) dX6_matter_8 kX6_207 iX4_listFitting vX4_listFitting (by decide) rfl rfl MX4_listFitting rfl rfl (Nat.le_of_ble_eq_true rfl) (FC.use (c_list d sn sc fi q hq) rfl (L2 := [(0, .inr (6, [.ref 1, .ref 5, .ref 7, .ref 10, .ref 18, .ref 26, .ref 31, .ref 35, .ref 37, .int (nI rk)])), (7, .inr (4, [.ref 8, .ref 9, .int (nI q)])), (8, .inl (false, 8, sn)), (9, .inl (false, 8, sc)), (35, .inl (false, 49, (frL (fitB sn sc q) fi 49)))]) rfl) (Nat.le_of_ble_eq_true rfl) (fun _ _ hq9 => E_fgo ?_ hq9)
  show E _ _ 11 [.ref 0, .int (nI k), .null] [.int (nI ((fcL (fitB sn sc q) 49).length))] (hov hp [(0, .inr (6, [.ref 1, .ref 5, .ref 7, .ref 10, .ref 18, .ref 26, .ref 31, .ref 35, .ref 37, .int (nI rk)])), (7, .inr (4, [.ref 8, .ref 9, .int (nI q)])), (8, .inl (false, 8, sn)), (9, .inl (false, 8, sc)), (35, .inl (false, 49, (frL (fitB sn sc q) fi 49)))]) _
  refine E_istore_n (l2 := [.ref 0, .int (nI k), .int (nI ((fcL (fitB sn sc q) 49).length))]) dX6_matter_11 rfl (by decide) rfl ?_
  refine E_iload_n dX6_matter_12 rfl ?_
  refine E_iconst (v := (-1)) dX6_matter_13 (by decide) ?_
  refine E_icmp_ne (tgt := 19) dX6_matter_14 (by decide) (fun _ => ?_) (fun c => absurd c h1)
  refine E_iload_n dX6_matter_19 rfl ?_
  refine E_if_lt (tgt := 37) dX6_matter_20 (by decide) (fun c => absurd c (nI_pos (by have := fcL_len (fitB sn sc q) 49; omega))) (fun _ => ?_)
  refine E_iload_n dX6_matter_23 rfl ?_
  refine E_iload_n dX6_matter_24 rfl ?_
  refine E_icmp_ge (tgt := 37) dX6_matter_25 (by decide) (fun c => absurd c (nI_ge hk (by have := fcL_len (fitB sn sc q) 49; omega))) (fun _ => ?_)
  refine E_aload_n dX6_matter_28 rfl ?_
  refine E_get dX6_matter_29 fX6_54 (by decide) rfl rfl ?_
  refine E_iload_n dX6_matter_32 rfl ?_
  refine E_ialdN (j := k) dX6_matter_33 (by decide) rfl (by have := fcL_len (fitB sn sc q) 49; omega) (by decide) ?_
  refine E_goto (tgt := 39) dX6_matter_34 (by decide) ?_
  exact E_iretf dX6_matter_39 rfl rfl rfl rfl

set_option maxHeartbeats 4000000 in
set_option maxRecDepth 20000 in
theorem t_mat_neg (d : Nat) (rk : Nat) (sn sc fi : Nat → Int32) (q : Nat) (hq : q ≤ 8) (x : Int32) (h1 : ¬ x = -1) (h2 : x < 0) : FC YX6_matter (d + 3) [.ref 0, .int x, .null] [(0, .inr (6, [.ref 1, .ref 5, .ref 7, .ref 10, .ref 18, .ref 26, .ref 31, .ref 35, .ref 37, .int (nI rk)])), (7, .inr (4, [.ref 8, .ref 9, .int (nI q)])), (8, .inl (false, 8, sn)), (9, .inl (false, 8, sc)), (35, .inl (false, 49, fi))] (some (.int (-6))) [(0, .inr (6, [.ref 1, .ref 5, .ref 7, .ref 10, .ref 18, .ref 26, .ref 31, .ref 35, .ref 37, .int (nI rk)])), (7, .inr (4, [.ref 8, .ref 9, .int (nI q)])), (8, .inl (false, 8, sn)), (9, .inl (false, 8, sc)), (35, .inl (false, 49, (frL (fitB sn sc q) fi 49)))] := by
  intro hp
  refine E_aload_n dX6_matter_0 rfl ?_
  refine E_get dX6_matter_1 fX6_26 (by decide) rfl rfl ?_
  refine E_aload_n dX6_matter_4 rfl ?_
  refine E_get dX6_matter_5 fX6_54 (by decide) rfl rfl ?_
  refine E_callV (As := [.ref 35]) (l' := [.ref 7, .ref 35, .null, .null, .null]) (st := []) dX6_matter_8 kX6_207 iX4_listFitting vX4_listFitting (by decide) rfl rfl MX4_listFitting rfl rfl (Nat.le_of_ble_eq_true rfl) (FC.use (c_list d sn sc fi q hq) rfl (L2 := [(0, .inr (6, [.ref 1, .ref 5, .ref 7, .ref 10, .ref 18, .ref 26, .ref 31, .ref 35, .ref 37, .int (nI rk)])), (7, .inr (4, [.ref 8, .ref 9, .int (nI q)])), (8, .inl (false, 8, sn)), (9, .inl (false, 8, sc)), (35, .inl (false, 49, (frL (fitB sn sc q) fi 49)))]) rfl) (Nat.le_of_ble_eq_true rfl) (fun _ _ hq9 => E_fgo ?_ hq9)
  show E _ _ 11 [.ref 0, .int x, .null] [.int (nI ((fcL (fitB sn sc q) 49).length))] (hov hp [(0, .inr (6, [.ref 1, .ref 5, .ref 7, .ref 10, .ref 18, .ref 26, .ref 31, .ref 35, .ref 37, .int (nI rk)])), (7, .inr (4, [.ref 8, .ref 9, .int (nI q)])), (8, .inl (false, 8, sn)), (9, .inl (false, 8, sc)), (35, .inl (false, 49, (frL (fitB sn sc q) fi 49)))]) _
  refine E_istore_n (l2 := [.ref 0, .int x, .int (nI ((fcL (fitB sn sc q) 49).length))]) dX6_matter_11 rfl (by decide) rfl ?_
  refine E_iload_n dX6_matter_12 rfl ?_
  refine E_iconst (v := (-1)) dX6_matter_13 (by decide) ?_
  refine E_icmp_ne (tgt := 19) dX6_matter_14 (by decide) (fun _ => ?_) (fun c => absurd c h1)
  refine E_iload_n dX6_matter_19 rfl ?_
  refine E_if_lt (tgt := 37) dX6_matter_20 (by decide) (fun _ => ?_) (fun c => absurd h2 c)
  refine E_bipush (v := (-6)) dX6_matter_37 (by decide) ?_
  exact E_iretf dX6_matter_39 rfl rfl rfl rfl

set_option maxHeartbeats 4000000 in
set_option maxRecDepth 20000 in
theorem t_mat_big (d : Nat) (rk : Nat) (sn sc fi : Nat → Int32) (q : Nat) (hq : q ≤ 8) (x : Int32) (h1 : ¬ x = -1) (h2 : ¬ x < 0) (h3 : nI (fcL (fitB sn sc q) 49).length ≤ x) : FC YX6_matter (d + 3) [.ref 0, .int x, .null] [(0, .inr (6, [.ref 1, .ref 5, .ref 7, .ref 10, .ref 18, .ref 26, .ref 31, .ref 35, .ref 37, .int (nI rk)])), (7, .inr (4, [.ref 8, .ref 9, .int (nI q)])), (8, .inl (false, 8, sn)), (9, .inl (false, 8, sc)), (35, .inl (false, 49, fi))] (some (.int (-6))) [(0, .inr (6, [.ref 1, .ref 5, .ref 7, .ref 10, .ref 18, .ref 26, .ref 31, .ref 35, .ref 37, .int (nI rk)])), (7, .inr (4, [.ref 8, .ref 9, .int (nI q)])), (8, .inl (false, 8, sn)), (9, .inl (false, 8, sc)), (35, .inl (false, 49, (frL (fitB sn sc q) fi 49)))] := by
  intro hp
  refine E_aload_n dX6_matter_0 rfl ?_
  refine E_get dX6_matter_1 fX6_26 (by decide) rfl rfl ?_
  refine E_aload_n dX6_matter_4 rfl ?_
  refine E_get dX6_matter_5 fX6_54 (by decide) rfl rfl ?_
  refine E_callV (As := [.ref 35]) (l' := [.ref 7, .ref 35, .null, .null, .null]) (st := []) dX6_matter_8 kX6_207 iX4_listFitting vX4_listFitting (by decide) rfl rfl MX4_listFitting rfl rfl (Nat.le_of_ble_eq_true rfl) (FC.use (c_list d sn sc fi q hq) rfl (L2 := [(0, .inr (6, [.ref 1, .ref 5, .ref 7, .ref 10, .ref 18, .ref 26, .ref 31, .ref 35, .ref 37, .int (nI rk)])), (7, .inr (4, [.ref 8, .ref 9, .int (nI q)])), (8, .inl (false, 8, sn)), (9, .inl (false, 8, sc)), (35, .inl (false, 49, (frL (fitB sn sc q) fi 49)))]) rfl) (Nat.le_of_ble_eq_true rfl) (fun _ _ hq9 => E_fgo ?_ hq9)
  show E _ _ 11 [.ref 0, .int x, .null] [.int (nI ((fcL (fitB sn sc q) 49).length))] (hov hp [(0, .inr (6, [.ref 1, .ref 5, .ref 7, .ref 10, .ref 18, .ref 26, .ref 31, .ref 35, .ref 37, .int (nI rk)])), (7, .inr (4, [.ref 8, .ref 9, .int (nI q)])), (8, .inl (false, 8, sn)), (9, .inl (false, 8, sc)), (35, .inl (false, 49, (frL (fitB sn sc q) fi 49)))]) _
  refine E_istore_n (l2 := [.ref 0, .int x, .int (nI ((fcL (fitB sn sc q) 49).length))]) dX6_matter_11 rfl (by decide) rfl ?_
  refine E_iload_n dX6_matter_12 rfl ?_
  refine E_iconst (v := (-1)) dX6_matter_13 (by decide) ?_
  refine E_icmp_ne (tgt := 19) dX6_matter_14 (by decide) (fun _ => ?_) (fun c => absurd c h1)
  refine E_iload_n dX6_matter_19 rfl ?_
  refine E_if_lt (tgt := 37) dX6_matter_20 (by decide) (fun c => absurd c h2) (fun _ => ?_)
  refine E_iload_n dX6_matter_23 rfl ?_
  refine E_iload_n dX6_matter_24 rfl ?_
  refine E_icmp_ge (tgt := 37) dX6_matter_25 (by decide) (fun _ => ?_) (fun c => absurd h3 c)
  refine E_bipush (v := (-6)) dX6_matter_37 (by decide) ?_
  exact E_iretf dX6_matter_39 rfl rfl rfl rfl

set_option maxHeartbeats 4000000 in
set_option maxRecDepth 20000 in
theorem c_countLeft (d : Nat) (rk : Nat) (F : Nat → Int32) (cd : Nat → Nat) (nn m : Nat) (hnn : nn ≤ 20) (hm : m ≤ 49) (hF : ∀ k, k < m → F k = nI (cd k)) (hcd : ∀ k, cd k < 70) (k : Nat) (hk : k < 7) : FC YX6_countLeft (d + 1) [.ref 0, .int (nI nn), .int (nI k), .int (nI m), .null, .null] [(0, .inr (6, [.ref 1, .ref 5, .ref 7, .ref 10, .ref 18, .ref 26, .ref 31, .ref 35, .ref 37, .int (nI rk)])), (35, .inl (false, 49, F))] (some (.int (nI ((ml cd nn m).1 k)))) [(0, .inr (6, [.ref 1, .ref 5, .ref 7, .ref 10, .ref 18, .ref 26, .ref 31, .ref 35, .ref 37, .int (nI rk)])), (35, .inl (false, 49, F))] := by
  intro hp
  refine E_iconst (v := 0) dX6_countLeft_0 (by decide) ?_
  refine E_istore (l2 := [.ref 0, .int (nI nn), .int (nI k), .int (nI m), .int 0, .null]) dX6_countLeft_1 (by decide) rfl ?_
  refine E_iconst (v := 0) dX6_countLeft_3 (by decide) ?_
  refine E_istore (l2 := [.ref 0, .int (nI nn), .int (nI k), .int (nI m), .int 0, .int 0]) dX6_countLeft_4 (by decide) rfl ?_
  have L : ∀ i, i ≤ m → E YX6_countLeft (d + 1) 6 [.ref 0, .int (nI nn), .int (nI k), .int (nI m), .int (nI ((ml cd nn i).1 k)), .int (nI i)] [] (hov hp [(0, .inr (6, [.ref 1, .ref 5, .ref 7, .ref 10, .ref 18, .ref 26, .ref 31, .ref 35, .ref 37, .int (nI rk)])), (35, .inl (false, 49, F))]) (fun v h' => v = some (.int (nI ((ml cd nn m).1 k))) ∧ h' = hov hp [(0, .inr (6, [.ref 1, .ref 5, .ref 7, .ref 10, .ref 18, .ref 26, .ref 31, .ref 35, .ref 37, .int (nI rk)])), (35, .inl (false, 49, F))]) := by
    refine down m ?_ ?_
    · refine E_iload dX6_countLeft_6 rfl ?_
      refine E_iload_n dX6_countLeft_8 rfl ?_
      refine E_icmp_ge (tgt := 56) dX6_countLeft_9 (by decide) (fun _ => ?_) (fun c => absurd (nI_le (Nat.le_refl _) (by omega)) c)
      refine E_iload dX6_countLeft_56 rfl ?_
      exact E_iretf dX6_countLeft_58 rfl rfl rfl rfl
    · intro i hi ih
      have hk7 : colN (cd i) nn < 7 := Nat.mod_lt _ (by decide)
      refine E_iload dX6_countLeft_6 rfl ?_
      refine E_iload_n dX6_countLeft_8 rfl ?_
      refine E_icmp_ge (tgt := 56) dX6_countLeft_9 (by decide) (fun c => absurd c (nI_ge hi (by omega))) (fun _ => ?_)
      refine E_iload dX6_countLeft_12 rfl ?_
      refine E_bipush (v := 49) dX6_countLeft_14 (by decide) ?_
      refine E_icmp_ge (tgt := 56) dX6_countLeft_16 (by decide) (fun c => absurd c (cI_nle (n := 49) rfl (by omega) (by decide))) (fun _ => ?_)
      refine E_aload_n dX6_countLeft_19 rfl ?_
      refine E_get dX6_countLeft_20 fX6_54 (by decide) rfl rfl ?_
      refine E_iload dX6_countLeft_23 rfl ?_
      refine E_ialdN (j := i) dX6_countLeft_25 (by decide) rfl (by omega) (by decide) ?_
      refine E_eqi (y := nI (cd i)) (hF i hi) ?_
      refine E_bipush (v := 10) dX6_countLeft_26 (by decide) ?_
      refine E_idiv dX6_countLeft_28 (by decide) ?_
      refine E_eqi (y := nI (cd i / 10)) (nI_d (by have := hcd i; omega) (by decide) (by decide)) ?_
      refine E_aload_n dX6_countLeft_29 rfl ?_
      refine E_get dX6_countLeft_30 fX6_54 (by decide) rfl rfl ?_
      refine E_iload dX6_countLeft_33 rfl ?_
      refine E_ialdN (j := i) dX6_countLeft_35 (by decide) rfl (by omega) (by decide) ?_
      refine E_eqi (y := nI (cd i)) (hF i hi) ?_
      refine E_bipush (v := 10) dX6_countLeft_36 (by decide) ?_
      refine E_irem dX6_countLeft_38 (by decide) ?_
      refine E_eqi (y := nI (cd i % 10)) (nI_r (by have := hcd i; omega) (by decide) (by decide)) ?_
      refine E_iload_n dX6_countLeft_39 rfl ?_
      refine E_callS (As := [.int (nI (cd i / 10)), .int (nI (cd i % 10)), .int (nI nn)]) (l' := [.int (nI (cd i / 10)), .int (nI (cd i % 10)), .int (nI nn)]) (st := []) dX6_countLeft_40 kX6_223 sX6_colourOf MX6_colourOf rfl rfl (Nat.le_of_ble_eq_true rfl) (FC.use (c_colourOf d _ _ _) rfl (L2 := [(0, .inr (6, [.ref 1, .ref 5, .ref 7, .ref 10, .ref 18, .ref 26, .ref 31, .ref 35, .ref 37, .int (nI rk)])), (35, .inl (false, 49, F))]) rfl) (Nat.le_of_ble_eq_true rfl) (fun _ _ hq9 => E_fgo ?_ hq9)
      show E _ _ 43 [.ref 0, .int (nI nn), .int (nI k), .int (nI m), .int (nI ((ml cd nn i).1 k)), .int (nI i)] [.int (colI (nI (cd i / 10)) (nI (cd i % 10)) (nI nn))] (hov hp [(0, .inr (6, [.ref 1, .ref 5, .ref 7, .ref 10, .ref 18, .ref 26, .ref 31, .ref 35, .ref 37, .int (nI rk)])), (35, .inl (false, 49, F))]) _
      refine E_eqi (y := nI (colN (cd i) nn)) (col_N (hcd i) hnn) ?_
      refine E_iload_n dX6_countLeft_43 rfl ?_
      refine E_icmp_ne (tgt := 50) dX6_countLeft_44 (by decide) (fun c44 => ?_) (fun c44 => ?_)
      · have c44 : ¬ colN (cd i) nn = k := fun e => c44 (by rw [e])
        refine E_iinc (y := nI (i + 1)) (l2 := [.ref 0, .int (nI nn), .int (nI k), .int (nI m), .int (nI ((ml cd nn i).1 k)), .int (nI (i + 1))]) dX6_countLeft_50 rfl (nI_1 _) (by decide) rfl ?_
        refine E_goto (tgt := 6) dX6_countLeft_53 (by decide) ?_
        rw [ml1_f c44] at ih
        exact ih
      · have c44 : colN (cd i) nn = k := nI_inj (by omega) (by omega) c44
        refine E_iinc (y := nI ((ml cd nn i).1 k + 1)) (l2 := [.ref 0, .int (nI nn), .int (nI k), .int (nI m), .int (nI ((ml cd nn i).1 k + 1)), .int (nI i)]) dX6_countLeft_47 rfl (nI_1 _) (by decide) rfl ?_
        refine E_iinc (y := nI (i + 1)) (l2 := [.ref 0, .int (nI nn), .int (nI k), .int (nI m), .int (nI ((ml cd nn i).1 k + 1)), .int (nI (i + 1))]) dX6_countLeft_50 rfl (nI_1 _) (by decide) rfl ?_
        refine E_goto (tgt := 6) dX6_countLeft_53 (by decide) ?_
        rw [ml1_t c44] at ih
        exact ih
  exact L 0 (by omega)

set_option maxHeartbeats 4000000 in
set_option maxRecDepth 20000 in
theorem c_mostLeft (d : Nat) (rk : Nat) (F : Nat → Int32) (cd : Nat → Nat) (nn m : Nat) (hnn : nn ≤ 20) (hm : m ≤ 49) (hF : ∀ k, k < m → F k = nI (cd k)) (hcd : ∀ k, cd k < 70) : FC YX6_mostLeft (d + 2) [.ref 0, .int (nI nn), .int (nI m), .null, .null] [(0, .inr (6, [.ref 1, .ref 5, .ref 7, .ref 10, .ref 18, .ref 26, .ref 31, .ref 35, .ref 37, .int (nI rk)])), (35, .inl (false, 49, F))] (some (.int (nI ((ml cd nn m).2)))) [(0, .inr (6, [.ref 1, .ref 5, .ref 7, .ref 10, .ref 18, .ref 26, .ref 31, .ref 35, .ref 37, .int (nI rk)])), (35, .inl (false, 49, F))] := by
  intro hp
  refine E_iconst (v := 0) dX6_mostLeft_0 (by decide) ?_
  refine E_istore_n (l2 := [.ref 0, .int (nI nn), .int (nI m), .int 0, .null]) dX6_mostLeft_1 rfl (by decide) rfl ?_
  refine E_iconst (v := 0) dX6_mostLeft_2 (by decide) ?_
  refine E_istore (l2 := [.ref 0, .int (nI nn), .int (nI m), .int 0, .int 0]) dX6_mostLeft_3 (by decide) rfl ?_
  have hb := ml_le (cd := cd) (n := nn) m
  have L : ∀ i, i ≤ 7 → E YX6_mostLeft (d + 2) 5 [.ref 0, .int (nI nn), .int (nI m), .int (nI (mxF (ml cd nn m).1 i)), .int (nI i)] [] (hov hp [(0, .inr (6, [.ref 1, .ref 5, .ref 7, .ref 10, .ref 18, .ref 26, .ref 31, .ref 35, .ref 37, .int (nI rk)])), (35, .inl (false, 49, F))]) (fun v h' => v = some (.int (nI ((ml cd nn m).2))) ∧ h' = hov hp [(0, .inr (6, [.ref 1, .ref 5, .ref 7, .ref 10, .ref 18, .ref 26, .ref 31, .ref 35, .ref 37, .int (nI rk)])), (35, .inl (false, 49, F))]) := by
    refine down 7 ?_ ?_
    · refine E_iload dX6_mostLeft_5 rfl ?_
      refine E_bipush (v := 7) dX6_mostLeft_7 (by decide) ?_
      refine E_icmp_ge (tgt := 31) dX6_mostLeft_9 (by decide) (fun _ => ?_) (fun c => absurd (by decide) c)
      refine E_iload_n dX6_mostLeft_31 rfl ?_
      exact E_iretf dX6_mostLeft_32 rfl rfl (congrArg nI (ml_mx m)) rfl
    · intro i hi ih
      have h1 := mxF_le hb.1 i
      have h2 := hb.1 i
      refine E_iload dX6_mostLeft_5 rfl ?_
      refine E_bipush (v := 7) dX6_mostLeft_7 (by decide) ?_
      refine E_icmp_ge (tgt := 31) dX6_mostLeft_9 (by decide) (fun c => absurd c (cI_nle (n := 7) rfl hi (by decide))) (fun _ => ?_)
      refine E_iload_n dX6_mostLeft_12 rfl ?_
      refine E_aload_n dX6_mostLeft_13 rfl ?_
      refine E_iload_n dX6_mostLeft_14 rfl ?_
      refine E_iload dX6_mostLeft_15 rfl ?_
      refine E_iload_n dX6_mostLeft_17 rfl ?_
      refine E_callV (As := [.int (nI nn), .int (nI i), .int (nI m)]) (l' := [.ref 0, .int (nI nn), .int (nI i), .int (nI m), .null, .null]) (st := [.int (nI (mxF (ml cd nn m).1 i))]) dX6_mostLeft_18 kX6_214 iX6_countLeft vX6_countLeft (by decide) rfl rfl MX6_countLeft rfl rfl (Nat.le_of_ble_eq_true rfl) (FC.use (c_countLeft d rk F cd nn m hnn hm hF hcd i hi) rfl (L2 := [(0, .inr (6, [.ref 1, .ref 5, .ref 7, .ref 10, .ref 18, .ref 26, .ref 31, .ref 35, .ref 37, .int (nI rk)])), (35, .inl (false, 49, F))]) rfl) (Nat.le_of_ble_eq_true rfl) (fun _ _ hq9 => E_fgo ?_ hq9)
      show E _ _ 21 [.ref 0, .int (nI nn), .int (nI m), .int (nI (mxF (ml cd nn m).1 i)), .int (nI i)] [.int (nI ((ml cd nn m).1 i)), .int (nI (mxF (ml cd nn m).1 i))] (hov hp [(0, .inr (6, [.ref 1, .ref 5, .ref 7, .ref 10, .ref 18, .ref 26, .ref 31, .ref 35, .ref 37, .int (nI rk)])), (35, .inl (false, 49, F))]) _
      refine E_Mmax dX6_mostLeft_21 kX6_218 (Nat.le_of_ble_eq_true rfl) ?_
      refine E_eqi (y := nI (mxF (ml cd nn m).1 (i + 1))) (max_nI (by omega) (by omega)) ?_
      refine E_istore_n (l2 := [.ref 0, .int (nI nn), .int (nI m), .int (nI (mxF (ml cd nn m).1 (i + 1))), .int (nI i)]) dX6_mostLeft_24 rfl (by decide) rfl ?_
      refine E_iinc (y := nI (i + 1)) (l2 := [.ref 0, .int (nI nn), .int (nI m), .int (nI (mxF (ml cd nn m).1 (i + 1))), .int (nI (i + 1))]) dX6_mostLeft_25 rfl (nI_1 _) (by decide) rfl ?_
      refine E_goto (tgt := 5) dX6_mostLeft_28 (by decide) ?_
      exact ih
  exact L 0 (by decide)

set_option maxHeartbeats 4000000 in
set_option maxRecDepth 20000 in
theorem t_ask_out (d : Nat) (rk : Nat) (v : Int32) (hv : inL (Int32.toInt64 v) 0 1 = false) : FC YX6_ask (d + 3) [.ref 0, .int v, .null, .null, .null, .null, .null] [(0, .inr (6, [.ref 1, .ref 5, .ref 7, .ref 10, .ref 18, .ref 26, .ref 31, .ref 35, .ref 37, .int (nI rk)]))] (some (.int (-2))) [(0, .inr (6, [.ref 1, .ref 5, .ref 7, .ref 10, .ref 18, .ref 26, .ref 31, .ref 35, .ref 37, .int (nI rk)]))] := by
  intro hp
  refine E_iload_n dX6_ask_0 rfl ?_
  refine E_i2l dX6_ask_1 ?_
  refine E_lconst (v := 0) dX6_ask_2 (by decide) ?_
  refine E_lconst (v := 1) dX6_ask_3 (by decide) ?_
  refine E_callS (As := [.long (Int32.toInt64 v), .long 0, .long 1]) (l' := [.long (Int32.toInt64 v), .null, .long 0, .null, .long 1, .null]) (st := []) dX6_ask_4 kX6_73 sX6_isIn MX6_isIn rfl rfl (Nat.le_of_ble_eq_true rfl) (FC.use (c_isIn (d + 2) _ _ _) rfl (L2 := [(0, .inr (6, [.ref 1, .ref 5, .ref 7, .ref 10, .ref 18, .ref 26, .ref 31, .ref 35, .ref 37, .int (nI rk)]))]) rfl) (Nat.le_of_ble_eq_true rfl) (fun _ _ hq9 => E_fgo ?_ hq9)
  show E _ _ 7 [.ref 0, .int v, .null, .null, .null, .null, .null] [.int (b2i (inL (Int32.toInt64 v) 0 1))] (hov hp [(0, .inr (6, [.ref 1, .ref 5, .ref 7, .ref 10, .ref 18, .ref 26, .ref 31, .ref 35, .ref 37, .int (nI rk)]))]) _
  refine E_if_ne (tgt := 13) dX6_ask_7 (by decide) (fun c => (b2i_x0 hv c).elim) (fun _ => ?_)
  refine E_bipush (v := (-2)) dX6_ask_10 (by decide) ?_
  exact E_iretf dX6_ask_12 rfl rfl rfl rfl

set_option maxHeartbeats 4000000 in
set_option maxRecDepth 20000 in
theorem t_ask_none (d : Nat) (rk : Nat) (sn sc fi : Nat → Int32) (q : Nat) (hq : q ≤ 8) (v : Int32) (hv : inL (Int32.toInt64 v) 0 1 = true) (hl : (fcL (fitB sn sc q) 49).length = 0) : FC YX6_ask (d + 3) [.ref 0, .int v, .null, .null, .null, .null, .null] [(0, .inr (6, [.ref 1, .ref 5, .ref 7, .ref 10, .ref 18, .ref 26, .ref 31, .ref 35, .ref 37, .int (nI rk)])), (7, .inr (4, [.ref 8, .ref 9, .int (nI q)])), (8, .inl (false, 8, sn)), (9, .inl (false, 8, sc)), (35, .inl (false, 49, fi))] (some (.int (-6))) [(0, .inr (6, [.ref 1, .ref 5, .ref 7, .ref 10, .ref 18, .ref 26, .ref 31, .ref 35, .ref 37, .int (nI rk)])), (7, .inr (4, [.ref 8, .ref 9, .int (nI q)])), (8, .inl (false, 8, sn)), (9, .inl (false, 8, sc)), (35, .inl (false, 49, (frL (fitB sn sc q) fi 49)))] := by
  intro hp
  refine E_iload_n dX6_ask_0 rfl ?_
  refine E_i2l dX6_ask_1 ?_
  refine E_lconst (v := 0) dX6_ask_2 (by decide) ?_
  refine E_lconst (v := 1) dX6_ask_3 (by decide) ?_
  refine E_callS (As := [.long (Int32.toInt64 v), .long 0, .long 1]) (l' := [.long (Int32.toInt64 v), .null, .long 0, .null, .long 1, .null]) (st := []) dX6_ask_4 kX6_73 sX6_isIn MX6_isIn rfl rfl (Nat.le_of_ble_eq_true rfl) (FC.use (c_isIn (d + 2) _ _ _) rfl (L2 := [(0, .inr (6, [.ref 1, .ref 5, .ref 7, .ref 10, .ref 18, .ref 26, .ref 31, .ref 35, .ref 37, .int (nI rk)])), (7, .inr (4, [.ref 8, .ref 9, .int (nI q)])), (8, .inl (false, 8, sn)), (9, .inl (false, 8, sc)), (35, .inl (false, 49, fi))]) rfl) (Nat.le_of_ble_eq_true rfl) (fun _ _ hq9 => E_fgo ?_ hq9)
  show E _ _ 7 [.ref 0, .int v, .null, .null, .null, .null, .null] [.int (b2i (inL (Int32.toInt64 v) 0 1))] (hov hp [(0, .inr (6, [.ref 1, .ref 5, .ref 7, .ref 10, .ref 18, .ref 26, .ref 31, .ref 35, .ref 37, .int (nI rk)])), (7, .inr (4, [.ref 8, .ref 9, .int (nI q)])), (8, .inl (false, 8, sn)), (9, .inl (false, 8, sc)), (35, .inl (false, 49, fi))]) _
  refine E_if_ne (tgt := 13) dX6_ask_7 (by decide) (fun _ => ?_) (fun c => (b2i_x1 hv c).elim)
  refine E_aload_n dX6_ask_13 rfl ?_
  refine E_get dX6_ask_14 fX6_26 (by decide) rfl rfl ?_
  refine E_aload_n dX6_ask_17 rfl ?_
  refine E_get dX6_ask_18 fX6_54 (by decide) rfl rfl ?_
  refine E_callV (As := [.ref 35]) (l' := [.ref 7, .ref 35, .null, .null, .null]) (st := []) dX6_ask_21 kX6_207 iX4_listFitting vX4_listFitting (by decide) rfl rfl MX4_listFitting rfl rfl (Nat.le_of_ble_eq_true rfl) (FC.use (c_list d sn sc fi q hq) rfl (L2 := [(0, .inr (6, [.ref 1, .ref 5, .ref 7, .ref 10, .ref 18, .ref 26, .ref 31, .ref 35, .ref 37, .int (nI rk)])), (7, .inr (4, [.ref 8, .ref 9, .int (nI q)])), (8, .inl (false, 8, sn)), (9, .inl (false, 8, sc)), (35, .inl (false, 49, (frL (fitB sn sc q) fi 49)))]) rfl) (Nat.le_of_ble_eq_true rfl) (fun _ _ hq9 => E_fgo ?_ hq9)
  show E _ _ 24 [.ref 0, .int v, .null, .null, .null, .null, .null] [.int (nI ((fcL (fitB sn sc q) 49).length))] (hov hp [(0, .inr (6, [.ref 1, .ref 5, .ref 7, .ref 10, .ref 18, .ref 26, .ref 31, .ref 35, .ref 37, .int (nI rk)])), (7, .inr (4, [.ref 8, .ref 9, .int (nI q)])), (8, .inl (false, 8, sn)), (9, .inl (false, 8, sc)), (35, .inl (false, 49, (frL (fitB sn sc q) fi 49)))]) _
  refine E_istore_n (l2 := [.ref 0, .int v, .int (nI ((fcL (fitB sn sc q) 49).length)), .null, .null, .null, .null]) dX6_ask_24 rfl (by decide) rfl ?_
  refine E_iload_n dX6_ask_25 rfl ?_
  refine E_if_ne (tgt := 32) dX6_ask_26 (by decide) (fun c => absurd (by rw [hl]; rfl) c) (fun _ => ?_)
  refine E_bipush (v := (-6)) dX6_ask_29 (by decide) ?_
  exact E_iretf dX6_ask_31 rfl rfl rfl rfl

set_option maxHeartbeats 4000000 in
set_option maxRecDepth 20000 in
theorem t_ask_0 (d : Nat) (rk : Nat) (sn sc fi : Nat → Int32) (q : Nat) (hq : q ≤ 8) (hl : ¬ (fcL (fitB sn sc q) 49).length = 0) : FC YX6_ask (d + 3) [.ref 0, .int 0, .null, .null, .null, .null, .null] [(0, .inr (6, [.ref 1, .ref 5, .ref 7, .ref 10, .ref 18, .ref 26, .ref 31, .ref 35, .ref 37, .int (nI rk)])), (7, .inr (4, [.ref 8, .ref 9, .int (nI q)])), (8, .inl (false, 8, sn)), (9, .inl (false, 8, sc)), (35, .inl (false, 49, fi))] (some (.int ((ak (fun k => (fcL (fitB sn sc q) 49).getD k 0) (fcL (fitB sn sc q) 49).length 21).1))) [(0, .inr (6, [.ref 1, .ref 5, .ref 7, .ref 10, .ref 18, .ref 26, .ref 31, .ref 35, .ref 37, .int (nI rk)])), (7, .inr (4, [.ref 8, .ref 9, .int (nI q)])), (8, .inl (false, 8, sn)), (9, .inl (false, 8, sc)), (35, .inl (false, 49, (frL (fitB sn sc q) fi 49)))] := by
  intro hp
  have hl0 : ¬ nI (fcL (fitB sn sc q) 49).length = 0 := fun h => hl (nI_inj (by have := fcL_len (fitB sn sc q) 49; omega) (by decide) h)
  refine E_iload_n dX6_ask_0 rfl ?_
  refine E_i2l dX6_ask_1 ?_
  refine E_lconst (v := 0) dX6_ask_2 (by decide) ?_
  refine E_lconst (v := 1) dX6_ask_3 (by decide) ?_
  refine E_callS (As := [.long (Int32.toInt64 0), .long 0, .long 1]) (l' := [.long (Int32.toInt64 0), .null, .long 0, .null, .long 1, .null]) (st := []) dX6_ask_4 kX6_73 sX6_isIn MX6_isIn rfl rfl (Nat.le_of_ble_eq_true rfl) (FC.use (c_isIn (d + 2) _ _ _) rfl (L2 := [(0, .inr (6, [.ref 1, .ref 5, .ref 7, .ref 10, .ref 18, .ref 26, .ref 31, .ref 35, .ref 37, .int (nI rk)])), (7, .inr (4, [.ref 8, .ref 9, .int (nI q)])), (8, .inl (false, 8, sn)), (9, .inl (false, 8, sc)), (35, .inl (false, 49, fi))]) rfl) (Nat.le_of_ble_eq_true rfl) (fun _ _ hq9 => E_fgo ?_ hq9)
  show E _ _ 7 [.ref 0, .int 0, .null, .null, .null, .null, .null] [.int (b2i (inL (Int32.toInt64 0) 0 1))] (hov hp [(0, .inr (6, [.ref 1, .ref 5, .ref 7, .ref 10, .ref 18, .ref 26, .ref 31, .ref 35, .ref 37, .int (nI rk)])), (7, .inr (4, [.ref 8, .ref 9, .int (nI q)])), (8, .inl (false, 8, sn)), (9, .inl (false, 8, sc)), (35, .inl (false, 49, fi))]) _
  refine E_if_ne (tgt := 13) dX6_ask_7 (by decide) (fun _ => ?_) (fun c => (b2i_x1 (by decide) c).elim)
  refine E_aload_n dX6_ask_13 rfl ?_
  refine E_get dX6_ask_14 fX6_26 (by decide) rfl rfl ?_
  refine E_aload_n dX6_ask_17 rfl ?_
  refine E_get dX6_ask_18 fX6_54 (by decide) rfl rfl ?_
  refine E_callV (As := [.ref 35]) (l' := [.ref 7, .ref 35, .null, .null, .null]) (st := []) dX6_ask_21 kX6_207 iX4_listFitting vX4_listFitting (by decide) rfl rfl MX4_listFitting rfl rfl (Nat.le_of_ble_eq_true rfl) (FC.use (c_list d sn sc fi q hq) rfl (L2 := [(0, .inr (6, [.ref 1, .ref 5, .ref 7, .ref 10, .ref 18, .ref 26, .ref 31, .ref 35, .ref 37, .int (nI rk)])), (7, .inr (4, [.ref 8, .ref 9, .int (nI q)])), (8, .inl (false, 8, sn)), (9, .inl (false, 8, sc)), (35, .inl (false, 49, (frL (fitB sn sc q) fi 49)))]) rfl) (Nat.le_of_ble_eq_true rfl) (fun _ _ hq9 => E_fgo ?_ hq9)
  show E _ _ 24 [.ref 0, .int 0, .null, .null, .null, .null, .null] [.int (nI ((fcL (fitB sn sc q) 49).length))] (hov hp [(0, .inr (6, [.ref 1, .ref 5, .ref 7, .ref 10, .ref 18, .ref 26, .ref 31, .ref 35, .ref 37, .int (nI rk)])), (7, .inr (4, [.ref 8, .ref 9, .int (nI q)])), (8, .inl (false, 8, sn)), (9, .inl (false, 8, sc)), (35, .inl (false, 49, (frL (fitB sn sc q) fi 49)))]) _
  refine E_istore_n (l2 := [.ref 0, .int 0, .int (nI ((fcL (fitB sn sc q) 49).length)), .null, .null, .null, .null]) dX6_ask_24 rfl (by decide) rfl ?_
  refine E_iload_n dX6_ask_25 rfl ?_
  refine E_if_ne (tgt := 32) dX6_ask_26 (by decide) (fun _ => ?_) (fun c => absurd c hl0)
  refine E_bipush (v := (-6)) dX6_ask_32 (by decide) ?_
  refine E_istore_n (l2 := [.ref 0, .int 0, .int (nI ((fcL (fitB sn sc q) 49).length)), .int (-6), .null, .null, .null]) dX6_ask_34 rfl (by decide) rfl ?_
  refine E_bipush (v := 50) dX6_ask_35 (by decide) ?_
  refine E_istore (l2 := [.ref 0, .int 0, .int (nI ((fcL (fitB sn sc q) 49).length)), .int (-6), .int 50, .null, .null]) dX6_ask_37 (by decide) rfl ?_
  refine E_iconst (v := 0) dX6_ask_39 (by decide) ?_
  refine E_istore (l2 := [.ref 0, .int 0, .int (nI ((fcL (fitB sn sc q) 49).length)), .int (-6), .int 50, .int 0, .null]) dX6_ask_40 (by decide) rfl ?_
  have LA : ∀ i, i ≤ 21 → ∀ l6 : Value, E YX6_ask (d + 3) 42 [.ref 0, .int 0, .int (nI ((fcL (fitB sn sc q) 49).length)), .int ((ak (fun k => (fcL (fitB sn sc q) 49).getD k 0) (fcL (fitB sn sc q) 49).length i).1), .int (nI ((ak (fun k => (fcL (fitB sn sc q) 49).getD k 0) (fcL (fitB sn sc q) 49).length i).2)), .int (nI i), l6] [] (hov hp [(0, .inr (6, [.ref 1, .ref 5, .ref 7, .ref 10, .ref 18, .ref 26, .ref 31, .ref 35, .ref 37, .int (nI rk)])), (7, .inr (4, [.ref 8, .ref 9, .int (nI q)])), (8, .inl (false, 8, sn)), (9, .inl (false, 8, sc)), (35, .inl (false, 49, (frL (fitB sn sc q) fi 49)))]) (fun v h' => v = some (.int ((ak (fun k => (fcL (fitB sn sc q) 49).getD k 0) (fcL (fitB sn sc q) 49).length 21).1)) ∧ h' = hov hp [(0, .inr (6, [.ref 1, .ref 5, .ref 7, .ref 10, .ref 18, .ref 26, .ref 31, .ref 35, .ref 37, .int (nI rk)])), (7, .inr (4, [.ref 8, .ref 9, .int (nI q)])), (8, .inl (false, 8, sn)), (9, .inl (false, 8, sc)), (35, .inl (false, 49, (frL (fitB sn sc q) fi 49)))]) := by
    refine down 21 ?_ ?_
    · intro l6
      refine E_iload dX6_ask_42 rfl ?_
      refine E_bipush (v := 20) dX6_ask_44 (by decide) ?_
      refine E_icmp_gt (tgt := 78) dX6_ask_46 (by decide) (fun _ => ?_) (fun c => absurd (by decide) c)
      refine E_iload_n dX6_ask_78 rfl ?_
      refine E_if_ne (tgt := 86) dX6_ask_79 (by decide) (fun c => by first | exact absurd c (by decide) | exact absurd (by decide) c) (fun _ => ?_)
      refine E_iload_n dX6_ask_82 rfl ?_
      refine E_goto (tgt := 88) dX6_ask_83 (by decide) ?_
      exact E_iretf dX6_ask_88 rfl rfl rfl rfl
    · intro i hi ih l6
      have hA := ak_le (cd := (fun k => (fcL (fitB sn sc q) 49).getD k 0)) (fcL_len (fitB sn sc q) 49) i
      have hM := (ml_le (cd := (fun k => (fcL (fitB sn sc q) 49).getD k 0)) (n := i) (fcL (fitB sn sc q) 49).length).2
      have hL := fcL_len (fitB sn sc q) 49
      refine E_iload dX6_ask_42 rfl ?_
      refine E_bipush (v := 20) dX6_ask_44 (by decide) ?_
      refine E_icmp_gt (tgt := 78) dX6_ask_46 (by decide) (fun c => absurd c (Int32.not_lt.mpr (nI_le (b := 20) (by omega) (by decide)))) (fun _ => ?_)
      refine E_aload_n dX6_ask_49 rfl ?_
      refine E_iload dX6_ask_50 rfl ?_
      refine E_iload_n dX6_ask_52 rfl ?_
      refine E_callV (As := [.int (nI i), .int (nI ((fcL (fitB sn sc q) 49).length))]) (l' := [.ref 0, .int (nI i), .int (nI ((fcL (fitB sn sc q) 49).length)), .null, .null]) (st := []) dX6_ask_53 kX6_211 iX6_mostLeft vX6_mostLeft (by decide) rfl rfl MX6_mostLeft rfl rfl (Nat.le_of_ble_eq_true rfl) (FC.use (c_mostLeft d rk (frL (fitB sn sc q) fi 49) (fun k => (fcL (fitB sn sc q) 49).getD k 0) i (fcL (fitB sn sc q) 49).length (by omega) (fcL_len (fitB sn sc q) 49) (fun k hk => fr_get 49 k hk) (fun k => fcL_lt 49 k (Nat.le_refl _))) rfl (L2 := [(0, .inr (6, [.ref 1, .ref 5, .ref 7, .ref 10, .ref 18, .ref 26, .ref 31, .ref 35, .ref 37, .int (nI rk)])), (7, .inr (4, [.ref 8, .ref 9, .int (nI q)])), (8, .inl (false, 8, sn)), (9, .inl (false, 8, sc)), (35, .inl (false, 49, (frL (fitB sn sc q) fi 49)))]) rfl) (Nat.le_of_ble_eq_true rfl) (fun _ _ hq9 => E_fgo ?_ hq9)
      show E _ _ 56 [.ref 0, .int 0, .int (nI ((fcL (fitB sn sc q) 49).length)), .int ((ak (fun k => (fcL (fitB sn sc q) 49).getD k 0) (fcL (fitB sn sc q) 49).length i).1), .int (nI ((ak (fun k => (fcL (fitB sn sc q) 49).getD k 0) (fcL (fitB sn sc q) 49).length i).2)), .int (nI i), l6] [.int (nI ((ml (fun k => (fcL (fitB sn sc q) 49).getD k 0) i (fcL (fitB sn sc q) 49).length).2))] (hov hp [(0, .inr (6, [.ref 1, .ref 5, .ref 7, .ref 10, .ref 18, .ref 26, .ref 31, .ref 35, .ref 37, .int (nI rk)])), (7, .inr (4, [.ref 8, .ref 9, .int (nI q)])), (8, .inl (false, 8, sn)), (9, .inl (false, 8, sc)), (35, .inl (false, 49, (frL (fitB sn sc q) fi 49)))]) _
      refine E_istore (l2 := [.ref 0, .int 0, .int (nI ((fcL (fitB sn sc q) 49).length)), .int ((ak (fun k => (fcL (fitB sn sc q) 49).getD k 0) (fcL (fitB sn sc q) 49).length i).1), .int (nI ((ak (fun k => (fcL (fitB sn sc q) 49).getD k 0) (fcL (fitB sn sc q) 49).length i).2)), .int (nI i), .int (nI ((ml (fun k => (fcL (fitB sn sc q) 49).getD k 0) i (fcL (fitB sn sc q) 49).length).2))]) dX6_ask_56 (by decide) rfl ?_
      refine E_iload dX6_ask_58 rfl ?_
      refine E_iload dX6_ask_60 rfl ?_
      refine E_icmp_ge (tgt := 72) dX6_ask_62 (by decide) (fun c62 => ?_) (fun c62 => ?_)
      · have c62 := fun h => nI_ge h (by omega) c62
        refine E_iinc (y := nI (i + 1)) (l2 := [.ref 0, .int 0, .int (nI ((fcL (fitB sn sc q) 49).length)), .int ((ak (fun k => (fcL (fitB sn sc q) 49).getD k 0) (fcL (fitB sn sc q) 49).length i).1), .int (nI ((ak (fun k => (fcL (fitB sn sc q) 49).getD k 0) (fcL (fitB sn sc q) 49).length i).2)), .int (nI (i + 1)), .int (nI ((ml (fun k => (fcL (fitB sn sc q) 49).getD k 0) i (fcL (fitB sn sc q) 49).length).2))]) dX6_ask_72 rfl (nI_1 _) (by decide) rfl ?_
        refine E_goto (tgt := 42) dX6_ask_75 (by decide) ?_
        have e9 := ih (.int (nI ((ml (fun k => (fcL (fitB sn sc q) 49).getD k 0) i (fcL (fitB sn sc q) 49).length).2)))
        have eA : ak (fun k => (fcL (fitB sn sc q) 49).getD k 0) (fcL (fitB sn sc q) 49).length (i + 1) = ak (fun k => (fcL (fitB sn sc q) 49).getD k 0) (fcL (fitB sn sc q) 49).length i := if_neg c62
        rw [eA] at e9
        exact e9
      · have c62 := Nat.lt_of_not_le (fun h => c62 (nI_le h (by omega)))
        refine E_iload dX6_ask_65 rfl ?_
        refine E_istore_n (l2 := [.ref 0, .int 0, .int (nI ((fcL (fitB sn sc q) 49).length)), .int (nI i), .int (nI ((ak (fun k => (fcL (fitB sn sc q) 49).getD k 0) (fcL (fitB sn sc q) 49).length i).2)), .int (nI i), .int (nI ((ml (fun k => (fcL (fitB sn sc q) 49).getD k 0) i (fcL (fitB sn sc q) 49).length).2))]) dX6_ask_67 rfl (by decide) rfl ?_
        refine E_iload dX6_ask_68 rfl ?_
        refine E_istore (l2 := [.ref 0, .int 0, .int (nI ((fcL (fitB sn sc q) 49).length)), .int (nI i), .int (nI ((ml (fun k => (fcL (fitB sn sc q) 49).getD k 0) i (fcL (fitB sn sc q) 49).length).2)), .int (nI i), .int (nI ((ml (fun k => (fcL (fitB sn sc q) 49).getD k 0) i (fcL (fitB sn sc q) 49).length).2))]) dX6_ask_70 (by decide) rfl ?_
        refine E_iinc (y := nI (i + 1)) (l2 := [.ref 0, .int 0, .int (nI ((fcL (fitB sn sc q) 49).length)), .int (nI i), .int (nI ((ml (fun k => (fcL (fitB sn sc q) 49).getD k 0) i (fcL (fitB sn sc q) 49).length).2)), .int (nI (i + 1)), .int (nI ((ml (fun k => (fcL (fitB sn sc q) 49).getD k 0) i (fcL (fitB sn sc q) 49).length).2))]) dX6_ask_72 rfl (nI_1 _) (by decide) rfl ?_
        refine E_goto (tgt := 42) dX6_ask_75 (by decide) ?_
        have e9 := ih (.int (nI ((ml (fun k => (fcL (fitB sn sc q) 49).getD k 0) i (fcL (fitB sn sc q) 49).length).2)))
        have eA : ak (fun k => (fcL (fitB sn sc q) 49).getD k 0) (fcL (fitB sn sc q) 49).length (i + 1) = (nI i, (ml (fun k => (fcL (fitB sn sc q) 49).getD k 0) i (fcL (fitB sn sc q) 49).length).2) := if_pos c62
        rw [eA] at e9
        dsimp only at e9
        exact e9
  exact LA 0 (by decide) _

set_option maxHeartbeats 4000000 in
set_option maxRecDepth 20000 in
theorem t_ask_1 (d : Nat) (rk : Nat) (sn sc fi : Nat → Int32) (q : Nat) (hq : q ≤ 8) (hl : ¬ (fcL (fitB sn sc q) 49).length = 0) : FC YX6_ask (d + 3) [.ref 0, .int 1, .null, .null, .null, .null, .null] [(0, .inr (6, [.ref 1, .ref 5, .ref 7, .ref 10, .ref 18, .ref 26, .ref 31, .ref 35, .ref 37, .int (nI rk)])), (7, .inr (4, [.ref 8, .ref 9, .int (nI q)])), (8, .inl (false, 8, sn)), (9, .inl (false, 8, sc)), (35, .inl (false, 49, fi))] (some (.int (nI ((ak (fun k => (fcL (fitB sn sc q) 49).getD k 0) (fcL (fitB sn sc q) 49).length 21).2)))) [(0, .inr (6, [.ref 1, .ref 5, .ref 7, .ref 10, .ref 18, .ref 26, .ref 31, .ref 35, .ref 37, .int (nI rk)])), (7, .inr (4, [.ref 8, .ref 9, .int (nI q)])), (8, .inl (false, 8, sn)), (9, .inl (false, 8, sc)), (35, .inl (false, 49, (frL (fitB sn sc q) fi 49)))] := by
  intro hp
  have hl0 : ¬ nI (fcL (fitB sn sc q) 49).length = 0 := fun h => hl (nI_inj (by have := fcL_len (fitB sn sc q) 49; omega) (by decide) h)
  refine E_iload_n dX6_ask_0 rfl ?_
  refine E_i2l dX6_ask_1 ?_
  refine E_lconst (v := 0) dX6_ask_2 (by decide) ?_
  refine E_lconst (v := 1) dX6_ask_3 (by decide) ?_
  refine E_callS (As := [.long (Int32.toInt64 1), .long 0, .long 1]) (l' := [.long (Int32.toInt64 1), .null, .long 0, .null, .long 1, .null]) (st := []) dX6_ask_4 kX6_73 sX6_isIn MX6_isIn rfl rfl (Nat.le_of_ble_eq_true rfl) (FC.use (c_isIn (d + 2) _ _ _) rfl (L2 := [(0, .inr (6, [.ref 1, .ref 5, .ref 7, .ref 10, .ref 18, .ref 26, .ref 31, .ref 35, .ref 37, .int (nI rk)])), (7, .inr (4, [.ref 8, .ref 9, .int (nI q)])), (8, .inl (false, 8, sn)), (9, .inl (false, 8, sc)), (35, .inl (false, 49, fi))]) rfl) (Nat.le_of_ble_eq_true rfl) (fun _ _ hq9 => E_fgo ?_ hq9)
  show E _ _ 7 [.ref 0, .int 1, .null, .null, .null, .null, .null] [.int (b2i (inL (Int32.toInt64 1) 0 1))] (hov hp [(0, .inr (6, [.ref 1, .ref 5, .ref 7, .ref 10, .ref 18, .ref 26, .ref 31, .ref 35, .ref 37, .int (nI rk)])), (7, .inr (4, [.ref 8, .ref 9, .int (nI q)])), (8, .inl (false, 8, sn)), (9, .inl (false, 8, sc)), (35, .inl (false, 49, fi))]) _
  refine E_if_ne (tgt := 13) dX6_ask_7 (by decide) (fun _ => ?_) (fun c => (b2i_x1 (by decide) c).elim)
  refine E_aload_n dX6_ask_13 rfl ?_
  refine E_get dX6_ask_14 fX6_26 (by decide) rfl rfl ?_
  refine E_aload_n dX6_ask_17 rfl ?_
  refine E_get dX6_ask_18 fX6_54 (by decide) rfl rfl ?_
  refine E_callV (As := [.ref 35]) (l' := [.ref 7, .ref 35, .null, .null, .null]) (st := []) dX6_ask_21 kX6_207 iX4_listFitting vX4_listFitting (by decide) rfl rfl MX4_listFitting rfl rfl (Nat.le_of_ble_eq_true rfl) (FC.use (c_list d sn sc fi q hq) rfl (L2 := [(0, .inr (6, [.ref 1, .ref 5, .ref 7, .ref 10, .ref 18, .ref 26, .ref 31, .ref 35, .ref 37, .int (nI rk)])), (7, .inr (4, [.ref 8, .ref 9, .int (nI q)])), (8, .inl (false, 8, sn)), (9, .inl (false, 8, sc)), (35, .inl (false, 49, (frL (fitB sn sc q) fi 49)))]) rfl) (Nat.le_of_ble_eq_true rfl) (fun _ _ hq9 => E_fgo ?_ hq9)
  show E _ _ 24 [.ref 0, .int 1, .null, .null, .null, .null, .null] [.int (nI ((fcL (fitB sn sc q) 49).length))] (hov hp [(0, .inr (6, [.ref 1, .ref 5, .ref 7, .ref 10, .ref 18, .ref 26, .ref 31, .ref 35, .ref 37, .int (nI rk)])), (7, .inr (4, [.ref 8, .ref 9, .int (nI q)])), (8, .inl (false, 8, sn)), (9, .inl (false, 8, sc)), (35, .inl (false, 49, (frL (fitB sn sc q) fi 49)))]) _
  refine E_istore_n (l2 := [.ref 0, .int 1, .int (nI ((fcL (fitB sn sc q) 49).length)), .null, .null, .null, .null]) dX6_ask_24 rfl (by decide) rfl ?_
  refine E_iload_n dX6_ask_25 rfl ?_
  refine E_if_ne (tgt := 32) dX6_ask_26 (by decide) (fun _ => ?_) (fun c => absurd c hl0)
  refine E_bipush (v := (-6)) dX6_ask_32 (by decide) ?_
  refine E_istore_n (l2 := [.ref 0, .int 1, .int (nI ((fcL (fitB sn sc q) 49).length)), .int (-6), .null, .null, .null]) dX6_ask_34 rfl (by decide) rfl ?_
  refine E_bipush (v := 50) dX6_ask_35 (by decide) ?_
  refine E_istore (l2 := [.ref 0, .int 1, .int (nI ((fcL (fitB sn sc q) 49).length)), .int (-6), .int 50, .null, .null]) dX6_ask_37 (by decide) rfl ?_
  refine E_iconst (v := 0) dX6_ask_39 (by decide) ?_
  refine E_istore (l2 := [.ref 0, .int 1, .int (nI ((fcL (fitB sn sc q) 49).length)), .int (-6), .int 50, .int 0, .null]) dX6_ask_40 (by decide) rfl ?_
  have LA : ∀ i, i ≤ 21 → ∀ l6 : Value, E YX6_ask (d + 3) 42 [.ref 0, .int 1, .int (nI ((fcL (fitB sn sc q) 49).length)), .int ((ak (fun k => (fcL (fitB sn sc q) 49).getD k 0) (fcL (fitB sn sc q) 49).length i).1), .int (nI ((ak (fun k => (fcL (fitB sn sc q) 49).getD k 0) (fcL (fitB sn sc q) 49).length i).2)), .int (nI i), l6] [] (hov hp [(0, .inr (6, [.ref 1, .ref 5, .ref 7, .ref 10, .ref 18, .ref 26, .ref 31, .ref 35, .ref 37, .int (nI rk)])), (7, .inr (4, [.ref 8, .ref 9, .int (nI q)])), (8, .inl (false, 8, sn)), (9, .inl (false, 8, sc)), (35, .inl (false, 49, (frL (fitB sn sc q) fi 49)))]) (fun v h' => v = some (.int (nI ((ak (fun k => (fcL (fitB sn sc q) 49).getD k 0) (fcL (fitB sn sc q) 49).length 21).2))) ∧ h' = hov hp [(0, .inr (6, [.ref 1, .ref 5, .ref 7, .ref 10, .ref 18, .ref 26, .ref 31, .ref 35, .ref 37, .int (nI rk)])), (7, .inr (4, [.ref 8, .ref 9, .int (nI q)])), (8, .inl (false, 8, sn)), (9, .inl (false, 8, sc)), (35, .inl (false, 49, (frL (fitB sn sc q) fi 49)))]) := by
    refine down 21 ?_ ?_
    · intro l6
      refine E_iload dX6_ask_42 rfl ?_
      refine E_bipush (v := 20) dX6_ask_44 (by decide) ?_
      refine E_icmp_gt (tgt := 78) dX6_ask_46 (by decide) (fun _ => ?_) (fun c => absurd (by decide) c)
      refine E_iload_n dX6_ask_78 rfl ?_
      refine E_if_ne (tgt := 86) dX6_ask_79 (by decide) (fun _ => ?_) (fun c => by first | exact absurd c (by decide) | exact absurd (by decide) c)
      refine E_iload dX6_ask_86 rfl ?_
      exact E_iretf dX6_ask_88 rfl rfl rfl rfl
    · intro i hi ih l6
      have hA := ak_le (cd := (fun k => (fcL (fitB sn sc q) 49).getD k 0)) (fcL_len (fitB sn sc q) 49) i
      have hM := (ml_le (cd := (fun k => (fcL (fitB sn sc q) 49).getD k 0)) (n := i) (fcL (fitB sn sc q) 49).length).2
      have hL := fcL_len (fitB sn sc q) 49
      refine E_iload dX6_ask_42 rfl ?_
      refine E_bipush (v := 20) dX6_ask_44 (by decide) ?_
      refine E_icmp_gt (tgt := 78) dX6_ask_46 (by decide) (fun c => absurd c (Int32.not_lt.mpr (nI_le (b := 20) (by omega) (by decide)))) (fun _ => ?_)
      refine E_aload_n dX6_ask_49 rfl ?_
      refine E_iload dX6_ask_50 rfl ?_
      refine E_iload_n dX6_ask_52 rfl ?_
      refine E_callV (As := [.int (nI i), .int (nI ((fcL (fitB sn sc q) 49).length))]) (l' := [.ref 0, .int (nI i), .int (nI ((fcL (fitB sn sc q) 49).length)), .null, .null]) (st := []) dX6_ask_53 kX6_211 iX6_mostLeft vX6_mostLeft (by decide) rfl rfl MX6_mostLeft rfl rfl (Nat.le_of_ble_eq_true rfl) (FC.use (c_mostLeft d rk (frL (fitB sn sc q) fi 49) (fun k => (fcL (fitB sn sc q) 49).getD k 0) i (fcL (fitB sn sc q) 49).length (by omega) (fcL_len (fitB sn sc q) 49) (fun k hk => fr_get 49 k hk) (fun k => fcL_lt 49 k (Nat.le_refl _))) rfl (L2 := [(0, .inr (6, [.ref 1, .ref 5, .ref 7, .ref 10, .ref 18, .ref 26, .ref 31, .ref 35, .ref 37, .int (nI rk)])), (7, .inr (4, [.ref 8, .ref 9, .int (nI q)])), (8, .inl (false, 8, sn)), (9, .inl (false, 8, sc)), (35, .inl (false, 49, (frL (fitB sn sc q) fi 49)))]) rfl) (Nat.le_of_ble_eq_true rfl) (fun _ _ hq9 => E_fgo ?_ hq9)
      show E _ _ 56 [.ref 0, .int 1, .int (nI ((fcL (fitB sn sc q) 49).length)), .int ((ak (fun k => (fcL (fitB sn sc q) 49).getD k 0) (fcL (fitB sn sc q) 49).length i).1), .int (nI ((ak (fun k => (fcL (fitB sn sc q) 49).getD k 0) (fcL (fitB sn sc q) 49).length i).2)), .int (nI i), l6] [.int (nI ((ml (fun k => (fcL (fitB sn sc q) 49).getD k 0) i (fcL (fitB sn sc q) 49).length).2))] (hov hp [(0, .inr (6, [.ref 1, .ref 5, .ref 7, .ref 10, .ref 18, .ref 26, .ref 31, .ref 35, .ref 37, .int (nI rk)])), (7, .inr (4, [.ref 8, .ref 9, .int (nI q)])), (8, .inl (false, 8, sn)), (9, .inl (false, 8, sc)), (35, .inl (false, 49, (frL (fitB sn sc q) fi 49)))]) _
      refine E_istore (l2 := [.ref 0, .int 1, .int (nI ((fcL (fitB sn sc q) 49).length)), .int ((ak (fun k => (fcL (fitB sn sc q) 49).getD k 0) (fcL (fitB sn sc q) 49).length i).1), .int (nI ((ak (fun k => (fcL (fitB sn sc q) 49).getD k 0) (fcL (fitB sn sc q) 49).length i).2)), .int (nI i), .int (nI ((ml (fun k => (fcL (fitB sn sc q) 49).getD k 0) i (fcL (fitB sn sc q) 49).length).2))]) dX6_ask_56 (by decide) rfl ?_
      refine E_iload dX6_ask_58 rfl ?_
      refine E_iload dX6_ask_60 rfl ?_
      refine E_icmp_ge (tgt := 72) dX6_ask_62 (by decide) (fun c62 => ?_) (fun c62 => ?_)
      · have c62 := fun h => nI_ge h (by omega) c62
        refine E_iinc (y := nI (i + 1)) (l2 := [.ref 0, .int 1, .int (nI ((fcL (fitB sn sc q) 49).length)), .int ((ak (fun k => (fcL (fitB sn sc q) 49).getD k 0) (fcL (fitB sn sc q) 49).length i).1), .int (nI ((ak (fun k => (fcL (fitB sn sc q) 49).getD k 0) (fcL (fitB sn sc q) 49).length i).2)), .int (nI (i + 1)), .int (nI ((ml (fun k => (fcL (fitB sn sc q) 49).getD k 0) i (fcL (fitB sn sc q) 49).length).2))]) dX6_ask_72 rfl (nI_1 _) (by decide) rfl ?_
        refine E_goto (tgt := 42) dX6_ask_75 (by decide) ?_
        have e9 := ih (.int (nI ((ml (fun k => (fcL (fitB sn sc q) 49).getD k 0) i (fcL (fitB sn sc q) 49).length).2)))
        have eA : ak (fun k => (fcL (fitB sn sc q) 49).getD k 0) (fcL (fitB sn sc q) 49).length (i + 1) = ak (fun k => (fcL (fitB sn sc q) 49).getD k 0) (fcL (fitB sn sc q) 49).length i := if_neg c62
        rw [eA] at e9
        exact e9
      · have c62 := Nat.lt_of_not_le (fun h => c62 (nI_le h (by omega)))
        refine E_iload dX6_ask_65 rfl ?_
        refine E_istore_n (l2 := [.ref 0, .int 1, .int (nI ((fcL (fitB sn sc q) 49).length)), .int (nI i), .int (nI ((ak (fun k => (fcL (fitB sn sc q) 49).getD k 0) (fcL (fitB sn sc q) 49).length i).2)), .int (nI i), .int (nI ((ml (fun k => (fcL (fitB sn sc q) 49).getD k 0) i (fcL (fitB sn sc q) 49).length).2))]) dX6_ask_67 rfl (by decide) rfl ?_
        refine E_iload dX6_ask_68 rfl ?_
        refine E_istore (l2 := [.ref 0, .int 1, .int (nI ((fcL (fitB sn sc q) 49).length)), .int (nI i), .int (nI ((ml (fun k => (fcL (fitB sn sc q) 49).getD k 0) i (fcL (fitB sn sc q) 49).length).2)), .int (nI i), .int (nI ((ml (fun k => (fcL (fitB sn sc q) 49).getD k 0) i (fcL (fitB sn sc q) 49).length).2))]) dX6_ask_70 (by decide) rfl ?_
        refine E_iinc (y := nI (i + 1)) (l2 := [.ref 0, .int 1, .int (nI ((fcL (fitB sn sc q) 49).length)), .int (nI i), .int (nI ((ml (fun k => (fcL (fitB sn sc q) 49).getD k 0) i (fcL (fitB sn sc q) 49).length).2)), .int (nI (i + 1)), .int (nI ((ml (fun k => (fcL (fitB sn sc q) 49).getD k 0) i (fcL (fitB sn sc q) 49).length).2))]) dX6_ask_72 rfl (nI_1 _) (by decide) rfl ?_
        refine E_goto (tgt := 42) dX6_ask_75 (by decide) ?_
        have e9 := ih (.int (nI ((ml (fun k => (fcL (fitB sn sc q) 49).getD k 0) i (fcL (fitB sn sc q) 49).length).2)))
        have eA : ak (fun k => (fcL (fitB sn sc q) 49).getD k 0) (fcL (fitB sn sc q) 49).length (i + 1) = (nI i, (ml (fun k => (fcL (fitB sn sc q) 49).getD k 0) i (fcL (fitB sn sc q) 49).length).2) := if_pos c62
        rw [eA] at e9
        dsimp only at e9
        exact e9
  exact LA 0 (by decide) _
