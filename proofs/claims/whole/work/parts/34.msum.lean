/-! a sum does not mind the order -/
def suN (f : Nat → Nat) : Nat → Nat
  | 0 => 0
  | k + 1 => suN f k + f k
theorem suN_c {f g : Nat → Nat} : ∀ n, (∀ k, k < n → f k = g k) → suN f n = suN g n
  | 0, _ => rfl
  | n + 1, h => by rw [suN, suN, suN_c n (fun k hk => h k (by omega)), h n (by omega)]
theorem suN_x {f g : Nat → Nat} {k0 : Nat} : ∀ n, k0 < n → (∀ k, k < n → ¬ k = k0 → f k = g k) → suN f n + g k0 = suN g n + f k0
  | 0, h, _ => absurd h (Nat.not_lt_zero _)
  | n + 1, h, e => by
    rw [suN, suN]
    by_cases hk : k0 = n
    · rw [suN_c n (fun k hk2 => e k (by omega) (by omega)), hk]; omega
    · have i := suN_x n (by omega) (fun k hk2 => e k (by omega))
      rw [e n (by omega) (by omega)]; omega
theorem suN_p (f : Nat → Nat) : ∀ (n : Nat) (σ : Nat → Nat), (∀ j, j < n → σ j < n) → (∀ j k, j < n → k < n → σ j = σ k → j = k) → (∀ j, j < n → ∃ k, k < n ∧ σ k = j) ∧ suN f n = suN (fun k => f (σ k)) n
  | 0, _, _, _ => ⟨fun j h => absurd h (Nat.not_lt_zero _), rfl⟩
  | n + 1, σ, hm, hi => by
    have ih := suN_p f n (fun k => if σ k = n then σ n else σ k) (fun j hj => by
      show (if σ j = n then σ n else σ j) < n
      by_cases e : σ j = n
      · rw [if_pos e]
        have := hm n (by omega)
        by_cases e2 : σ n = n
        · exact absurd (hi j n (by omega) (by omega) (e.trans e2.symm)) (by omega)
        · omega
      · rw [if_neg e]; have := hm j (by omega); omega) (fun j k hj hk h => by
      change (if σ j = n then σ n else σ j) = (if σ k = n then σ n else σ k) at h
      by_cases e : σ j = n
      · rw [if_pos e] at h
        by_cases e2 : σ k = n
        · exact hi j k (by omega) (by omega) (e.trans e2.symm)
        · rw [if_neg e2] at h; have := hi n k (by omega) (by omega) h; omega
      · rw [if_neg e] at h
        by_cases e2 : σ k = n
        · rw [if_pos e2] at h; have := hi j n (by omega) (by omega) h; omega
        · rw [if_neg e2] at h; exact hi j k (by omega) (by omega) h)
    obtain ⟨hs, hf⟩ := ih
    by_cases ev : σ n = n
    · have t : ∀ k, k < n → (if σ k = n then σ n else σ k) = σ k := fun k hk => by
        rw [if_neg (fun e => absurd (hi k n (by omega) (by omega) (e.trans ev.symm)) (by omega))]
      refine ⟨fun j hj => ?_, ?_⟩
      · by_cases e : j = n
        · exact ⟨n, by omega, by rw [ev, e]⟩
        · obtain ⟨k, hk, e2⟩ := hs j (by omega)
          exact ⟨k, by omega, by rw [← t k hk]; exact e2⟩
      · have g : suN (fun k => f (if σ k = n then σ n else σ k)) n = suN (fun k => f (σ k)) n := suN_c n (fun k hk => by show f (if σ k = n then σ n else σ k) = f (σ k); rw [t k hk])
        rw [suN, suN, hf]
        show suN (fun k => f (if σ k = n then σ n else σ k)) n + f n = suN (fun k => f (σ k)) n + f (σ n)
        rw [g, ev]
    · have hv : σ n < n := by have := hm n (by omega); omega
      obtain ⟨k0, hk0, e0⟩ := hs (σ n) hv
      have e1 : σ k0 = n := by
        refine Classical.byContradiction fun e => ?_
        change (if σ k0 = n then σ n else σ k0) = σ n at e0
        rw [if_neg e] at e0
        have := hi k0 n (by omega) (by omega) e0
        omega
      refine ⟨fun j hj => ?_, ?_⟩
      · by_cases e : j = n
        · exact ⟨k0, by omega, by rw [e1, e]⟩
        · by_cases e3 : j = σ n
          · exact ⟨n, by omega, e3.symm⟩
          · obtain ⟨k, hk, e2⟩ := hs j (by omega)
            change (if σ k = n then σ n else σ k) = j at e2
            by_cases e4 : σ k = n
            · rw [if_pos e4] at e2; exact absurd e2.symm e3
            · rw [if_neg e4] at e2; exact ⟨k, by omega, e2⟩
      · have x := suN_x (f := fun k => f (if σ k = n then σ n else σ k)) (g := fun k => f (σ k)) n hk0 (fun k hk hne => by
          show f (if σ k = n then σ n else σ k) = f (σ k)
          rw [if_neg (fun e => hne (hi k k0 (by omega) (by omega) (e.trans e1.symm)))])
        try dsimp only at x
        rw [e1, if_pos rfl] at x
        rw [suN, suN, hf]
        try dsimp only
        omega
theorem suN_le {f g : Nat → Nat} : ∀ n, (∀ k, k < n → f k ≤ g k) → suN f n ≤ suN g n
  | 0, _ => Nat.le_refl _
  | n + 1, h => by
    have := suN_le n (fun k hk => h k (by omega))
    have := h n (by omega)
    rw [suN, suN]; omega
theorem suN_m (f : Nat → Nat) (m : Nat) : ∀ k, suN f m ≤ suN f (m + k)
  | 0 => Nat.le_refl _
  | k + 1 => by have := suN_m f m k; rw [show m + (k + 1) = m + k + 1 from rfl, suN]; omega
theorem suN_z {f : Nat → Nat} {m : Nat} : ∀ k, (∀ j, m ≤ j → j < m + k → f j = 0) → suN f (m + k) = suN f m
  | 0, _ => rfl
  | k + 1, h => by rw [show m + (k + 1) = m + k + 1 from rfl, suN, suN_z k (fun j a b => h j a (by omega)), h (m + k) (by omega) (by omega)]; rfl
theorem smD_su (nv dv : Nat → Nat) (x : Int32) (c : Nat) : ∀ n, smD nv dv x c n = suN (fun j => bif hbt x (nI j) && decide (dv j ≤ dv c) then nv j else 0) n
  | 0 => rfl
  | n + 1 => by rw [smD, suN, smD_su nv dv x c n]
theorem cumS_su (nv σ : Nat → Nat) (x : Int32) : ∀ n, cumS nv σ x n = suN (fun k => bif hbt x (nI (σ k)) then nv (σ k) else 0) n
  | 0 => rfl
  | n + 1 => by rw [cumS, suN, cumS_su nv σ x n]
theorem last_of (p : Nat → Bool) : ∀ n i, i < n → p i = true → ∃ j, j < n ∧ p j = true ∧ ∀ k, j < k → k < n → p k = false
  | 0, i, h, _ => absurd h (Nat.not_lt_zero _)
  | n + 1, i, h, hp => by
    cases e : p n with
    | true => exact ⟨n, by omega, e, fun k a b => by omega⟩
    | false =>
      have : i < n := by
        by_cases e2 : i = n
        · subst e2; rw [e] at hp; exact absurd hp (by decide)
        · omega
      obtain ⟨j, hj, hpj, hk⟩ := last_of p n i this hp
      refine ⟨j, by omega, hpj, fun k a b => ?_⟩
      by_cases e2 : k = n
      · rw [e2, e]
      · exact hk k a (by omega)
theorem can_in {nv dv σ : Nat → Nat} {n : Nat} (hS : Srt dv σ n) (x : Int32) : allB (cbP nv dv n x) n = allB (aiP nv dv σ x) n := by
  obtain ⟨hm, hi, ho⟩ := hS
  have mono : ∀ j k, j ≤ k → k < n → dv (σ j) ≤ dv (σ k) := fun j k h hk => by
    by_cases e : j = k
    · subst e; exact Nat.le_refl _
    · exact ho j k (by omega) hk
  have hp := fun c => (suN_p (fun j => bif hbt x (nI j) && decide (dv j ≤ dv c) then nv j else 0) n σ hm hi).2
  have hsur := (suN_p (fun j => j) n σ hm hi).1
  have iff : (allB (cbP nv dv n x) n = true) ↔ (allB (aiP nv dv σ x) n = true) := by
    rw [allB_iff, allB_iff]
    constructor
    · intro h i hin
      have a := h (σ i) (hm i hin)
      rw [cbP] at a
      rw [aiP]
      cases hb : hbt x (nI (σ i)) with
      | false => rfl
      | true =>
        rw [hb] at a
        have a2 : smD nv dv x (σ i) n ≤ dv (σ i) := by simpa using a
        refine decide_eq_true (Nat.le_trans ?_ a2)
        rw [cumS_su, smD_su, hp (σ i)]
        have b := suN_m (fun k => (fun j => bif hbt x (nI j) && decide (dv j ≤ dv (σ i)) then nv j else 0) (σ k)) (i + 1) (n - (i + 1))
        rw [show i + 1 + (n - (i + 1)) = n by omega] at b
        refine Nat.le_trans (suN_le (i + 1) (fun k hk => ?_)) b
        show _ ≤ (bif hbt x (nI (σ k)) && decide (dv (σ k) ≤ dv (σ i)) then nv (σ k) else 0)
        rw [decide_eq_true (mono k i (by omega) hin), Bool.and_true]
        exact Nat.le_refl _
    · intro h c hc
      obtain ⟨i, hin, ei⟩ := hsur c hc
      rw [cbP]
      cases hb : hbt x (nI c) with
      | false => rfl
      | true =>
        obtain ⟨j, hj, hpj, hz⟩ := last_of (fun k => hbt x (nI (σ k)) && decide (dv (σ k) ≤ dv c)) n i hin (by rw [ei, hb, decide_eq_true (Nat.le_refl _)]; rfl)
        rw [Bool.and_eq_true] at hpj
        have a := h j hj
        rw [aiP, hpj.1] at a
        have a2 : cumS nv σ x (j + 1) ≤ dv (σ j) := by simpa using a
        have dj : dv (σ j) ≤ dv c := of_decide_eq_true hpj.2
        refine decide_eq_true (Nat.le_trans ?_ (Nat.le_trans a2 dj))
        rw [smD_su, hp c, cumS_su]
        have z := suN_z (f := fun k => (fun j => bif hbt x (nI j) && decide (dv j ≤ dv c) then nv j else 0) (σ k)) (m := j + 1) (n - (j + 1)) (fun k a b => by
          have := hz k (by omega) (by omega)
          show (bif hbt x (nI (σ k)) && decide (dv (σ k) ≤ dv c) then nv (σ k) else 0) = 0
          rw [this]; rfl)
        rw [show j + 1 + (n - (j + 1)) = n by omega] at z
        rw [z]
        refine suN_le (j + 1) (fun k hk => ?_)
        show (bif hbt x (nI (σ k)) && decide (dv (σ k) ≤ dv c) then nv (σ k) else 0) ≤ _
        rw [decide_eq_true (Nat.le_trans (mono k j (by omega) hj) dj), Bool.and_true]
        exact Nat.le_refl _
  cases e1 : allB (cbP nv dv n x) n with
  | true => exact (iff.mp e1).symm
  | false =>
    cases e2 : allB (aiP nv dv σ x) n with
    | false => rfl
    | true => rw [iff.mpr e2] at e1; exact absurd e1 (by decide)
