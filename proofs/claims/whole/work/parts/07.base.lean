/-! heaps as a base and a short list of what was written over it -/
def hov (hp : HP) : List (Nat × AC) → HP
  | [] => hp
  | q :: L => fun j => bif Nat.beq j q.1 then q.2 else hov hp L j
def ins : List (Nat × AC) → Nat → AC → List (Nat × AC)
  | [], k, x => [(k, x)]
  | q :: L, k, x => bif Nat.beq k q.1 then (k, x) :: L else bif Nat.blt k q.1 then (k, x) :: q :: L else q :: ins L k x
def mrg (L : List (Nat × AC)) : List (Nat × AC) → List (Nat × AC)
  | [] => L
  | q :: M => ins (mrg L M) q.1 q.2
theorem hov_cons {hp : HP} {q : Nat × AC} {L : List (Nat × AC)} {j : Nat} : hov hp (q :: L) j = if j = q.1 then q.2 else hov hp L j := by
  show (bif Nat.beq j q.1 then q.2 else hov hp L j) = _
  by_cases h : j = q.1
  · rw [if_pos h, show Nat.beq j q.1 = true from Nat.beq_eq.mpr h]; rfl
  · rw [if_neg h, show Nat.beq j q.1 = false from by cases hb : Nat.beq j q.1 with | false => rfl | true => exact absurd (Nat.beq_eq.mp hb) h]; rfl
theorem hov_ins (hp : HP) : ∀ (L : List (Nat × AC)) (k : Nat) (x : AC), hov hp (ins L k x) = hup (hov hp L) k x
  | [], k, x => by
    funext j
    rw [ins, hov_cons]
    rfl
  | q :: L, k, x => by
    funext j
    rw [ins]
    cases hb : Nat.beq k q.1 with
    | true =>
      have hk : k = q.1 := Nat.beq_eq.mp hb
      show hov hp ((k, x) :: L) j = _
      rw [hov_cons]
      show _ = if j = k then x else hov hp (q :: L) j
      by_cases h : j = k
      · rw [if_pos h, if_pos h]
      · rw [if_neg h, if_neg h, hov_cons, if_neg (by rw [← hk]; exact h)]
    | false =>
      cases hl : Nat.blt k q.1 with
      | true =>
        show hov hp ((k, x) :: q :: L) j = _
        rw [hov_cons]
        rfl
      | false =>
        show hov hp (q :: ins L k x) j = if j = k then x else hov hp (q :: L) j
        have hne : ¬ k = q.1 := fun h => by rw [h, show Nat.beq q.1 q.1 = true from Nat.beq_eq.mpr rfl] at hb; cases hb
        rw [hov_cons, hov_cons, hov_ins hp L k x]
        show (if j = q.1 then q.2 else (if j = k then x else hov hp L j)) = _
        by_cases h1 : j = q.1
        · rw [if_pos h1, if_neg (by rw [h1]; exact fun h => hne h.symm), if_pos h1]
        · rw [if_neg h1, if_neg h1]
theorem hov_mrg (hp : HP) (L : List (Nat × AC)) : ∀ (M : List (Nat × AC)), hov (hov hp L) M = hov hp (mrg L M)
  | [] => rfl
  | q :: M => by
    rw [mrg, hov_ins]
    funext j
    rw [hov_cons]
    show _ = if j = q.1 then q.2 else hov hp (mrg L M) j
    rw [← hov_mrg hp L M]
/-! small numbers -/
def b2i (b : Bool) : Int32 := bif b then 1 else 0
theorem b2i_e0 {b : Bool} (h : b2i b = 0) : b = false := by cases b <;> first | rfl | exact absurd h (by decide)
theorem b2i_n0 {b : Bool} (h : ¬ b2i b = 0) : b = true := by cases b <;> first | rfl | exact absurd rfl h
theorem b2i_nar (b : Bool) : narrow .boolean (.int (b2i b)) = .int (b2i b) := by cases b <;> decide
theorem b2i_t {b : Bool} (h : b = true) : (1 : Int32) = b2i b := by subst h; rfl
theorem b2i_f {b : Bool} (h : b = false) : (0 : Int32) = b2i b := by subst h; rfl
theorem b2i_x1 {b : Bool} (h : b = true) (c : b2i b = 0) : False := by subst h; exact absurd c (by decide)
theorem b2i_x0 {b : Bool} (h : b = false) (c : ¬ b2i b = 0) : False := by subst h; exact absurd rfl c
theorem down {P : Nat → Prop} (n : Nat) (hx : P n) (hs : ∀ i, i < n → P (i + 1) → P i) : ∀ i, i ≤ n → P i := by
  have key : ∀ k, k ≤ n → P (n - k) := by
    intro k
    induction k with
    | zero => intro _; exact hx
    | succ k ih =>
      intro hk
      have h1 := ih (by omega)
      have h2 : n - k = (n - (k + 1)) + 1 := by omega
      rw [h2] at h1
      exact hs _ (by omega) h1
  intro i hi
  have := key (n - i) (by omega)
  rwa [show n - (n - i) = i by omega] at this
theorem cI_lt {i n : Nat} {c : Int32} (hc : c = nI n) (h : i < n) (hn : n < 2 ^ 31) : nI i < c := by rw [hc]; exact nI_lt h hn
theorem cI_nlt {i n : Nat} {c : Int32} (hc : c = nI n) (h : n ≤ i) (hn : i < 2 ^ 31) : ¬ nI i < c := by rw [hc]; exact nI_nlt h hn
theorem cI_le {i n : Nat} {c : Int32} (hc : c = nI n) (h : n ≤ i) (hn : i < 2 ^ 31) : c ≤ nI i := by rw [hc]; exact nI_le h hn
theorem cI_nle {i n : Nat} {c : Int32} (hc : c = nI n) (h : i < n) (hn : n < 2 ^ 31) : ¬ c ≤ nI i := by rw [hc]; exact nI_ge h hn
def absI (x : Int32) : Int32 := if 0 ≤ x then x else 0 - x
def maxI (x y : Int32) : Int32 := if x < y then y else x
def minI (x y : Int32) : Int32 := if y < x then y else x
/-! the walk over heaps of this form -/
section
variable {Y : MY} {d pc : Nat} {l st : List Value} {hp : HP} {L L2 : List (Nat × AC)} {Q : Option Value → HP → Prop}
theorem E_nm {x : Int32} (kk : ∀ z : Int32, z = x → E Y d pc l (.int z :: st) hp Q) : E Y d pc l (.int x :: st) hp Q := kk x rfl
theorem E_nml {x : Int64} (kk : ∀ z : Int64, z = x → E Y d pc l (.long z :: st) hp Q) : E Y d pc l (.long x :: st) hp Q := kk x rfl
theorem E_eqi {x y : Int32} (h : x = y) (kk : E Y d pc l (.int y :: st) hp Q) : E Y d pc l (.int x :: st) hp Q := h ▸ kk
theorem E_eql {x y : Int64} (h : x = y) (kk : E Y d pc l (.long y :: st) hp Q) : E Y d pc l (.long x :: st) hp Q := h ▸ kk
theorem E_ialdN {a n j : Nat} {f : Nat → Int32} (hd : decode Y.2.1 pc = .ok (.iaload, 1)) (ha : LV a) (hk : hp a = .inl (false, n, f)) (hj : j < n) (hn : n < 2 ^ 31) (kk : E Y d (pc + 1) l (.int (f j) :: st) hp Q) : E Y d pc l (.int (nI j) :: .ref a :: st) hp Q := by
  refine E_iald hd ha hk (vp_in_nI hj hn) ?_
  rw [nI_clamp (by omega)]
  exact kk
theorem E_zaldN {a n j : Nat} {f : Nat → Int32} (hd : decode Y.2.1 pc = .ok (.baload, 1)) (ha : LV a) (hk : hp a = .inl (true, n, f)) (hj : j < n) (hn : n < 2 ^ 31) (kk : E Y d (pc + 1) l (.int (f j) :: st) hp Q) : E Y d pc l (.int (nI j) :: .ref a :: st) hp Q := by
  refine E_zald hd ha hk (vp_in_nI hj hn) ?_
  rw [nI_clamp (by omega)]
  exact kk
theorem E_iastN {a n j : Nat} {f f2 : Nat → Int32} {x : Int32} (hd : decode Y.2.1 pc = .ok (.iastore, 1)) (ha : LV a) (hk : hov hp L a = .inl (false, n, f)) (hj : j < n) (hn : n < 2 ^ 31) (hf : upd f j x = f2) (hL : ins L a (.inl (false, n, f2)) = L2) (kk : E Y d (pc + 1) l st (hov hp L2) Q) : E Y d pc l (.int x :: .int (nI j) :: .ref a :: st) (hov hp L) Q := by
  refine E_iast hd ha hk (vp_in_nI hj hn) (f2 := f2) (by rw [nI_clamp (by omega)]; exact hf) ?_
  rw [← hov_ins, hL]
  exact kk
theorem E_zastN {a n j : Nat} {f f2 : Nat → Int32} {x : Int32} (hd : decode Y.2.1 pc = .ok (.bastore, 1)) (ha : LV a) (hk : hov hp L a = .inl (true, n, f)) (hj : j < n) (hn : n < 2 ^ 31) (hf : upd f j (vp_nar .boolean x) = f2) (hL : ins L a (.inl (true, n, f2)) = L2) (kk : E Y d (pc + 1) l st (hov hp L2) Q) : E Y d pc l (.int x :: .int (nI j) :: .ref a :: st) (hov hp L) Q := by
  refine E_zast hd ha hk (vp_in_nI hj hn) (f2 := f2) (by rw [nI_clamp (by omega)]; exact hf) ?_
  rw [← hov_ins, hL]
  exact kk
theorem E_puti {index ci k a : Nat} {fs fs2 : List Value} {x : Int32} (hd : decode Y.2.1 pc = .ok (.putfield index, 3)) (hF : FLK Y.1 index ci k .int) (hf : FLP ci k) (ha : LV a) (hk : hov hp L a = .inr (ci, fs)) (hkl : k < fs.length) (hfs : fs.set k (.int x) = fs2) (hL : ins L a (.inr (ci, fs2)) = L2) (kk : E Y d (pc + 3) l st (hov hp L2) Q) : E Y d pc l (.int x :: .ref a :: st) (hov hp L) Q := by
  refine E_put hd hF hf ha hk (fun _ => ⟨rfl, rfl⟩) hkl hfs ?_
  rw [← hov_ins, hL]
  exact kk
theorem E_putz {index ci k a : Nat} {fs fs2 : List Value} {b : Bool} (hd : decode Y.2.1 pc = .ok (.putfield index, 3)) (hF : FLK Y.1 index ci k .boolean) (hf : FLP ci k) (ha : LV a) (hk : hov hp L a = .inr (ci, fs)) (hkl : k < fs.length) (hfs : fs.set k (.int (b2i b)) = fs2) (hL : ins L a (.inr (ci, fs2)) = L2) (kk : E Y d (pc + 3) l st (hov hp L2) Q) : E Y d pc l (.int (b2i b) :: .ref a :: st) (hov hp L) Q := by
  refine E_put hd hF hf ha hk (fun _ => ⟨b2i_nar b, by cases b <;> rfl⟩) hkl hfs ?_
  rw [← hov_ins, hL]
  exact kk
/-- a contract: from what is told of the heap, to its answer and what is told then -/
def FC (Y : MY) (d : Nat) (l : List Value) (L0 : List (Nat × AC)) (r : Option Value) (M : List (Nat × AC)) : Prop := ∀ hp : HP, E Y d 0 l [] (hov hp L0) (fun v h => v = r ∧ h = hov hp M)
theorem FC.use {L0 M : List (Nat × AC)} {v : Option Value} (h : FC Y d l L0 v M) (h0 : mrg L L0 = L) (hm : mrg L M = L2) : E Y d 0 l [] (hov hp L) (fun r h => r = v ∧ h = hov hp L2) := by
  have h1 := h (hov hp L)
  rw [hov_mrg, h0] at h1
  refine E_mono h1 (fun v h' hq => ⟨hq.1, ?_⟩)
  rw [hq.2, hov_mrg, hm]
theorem E_fgo {r v : Option Value} {h' : HP} (kk : E Y d pc l (r.toList ++ st) (hov hp L2) Q) (hq : v = r ∧ h' = hov hp L2) : E Y d pc l (v.toList ++ st) h' Q := by
  obtain ⟨rfl, rfl⟩ := hq
  exact kk
/-- a contract whose answer is told by a relation -/
def FR (Y : MY) (d : Nat) (l : List Value) (L0 : List (Nat × AC)) (R : Option Value → List (Nat × AC) → Prop) : Prop := ∀ hp : HP, E Y d 0 l [] (hov hp L0) (fun v h => ∃ M, h = hov hp M ∧ R v M)
theorem FR.use {L0 : List (Nat × AC)} {R : Option Value → List (Nat × AC) → Prop} (h : FR Y d l L0 R) (h0 : mrg L L0 = L) : E Y d 0 l [] (hov hp L) (fun v h => ∃ M, h = hov hp (mrg L M) ∧ R v M) := by
  have h1 := h (hov hp L)
  rw [hov_mrg, h0] at h1
  refine E_mono h1 (fun v h' hq => ?_)
  obtain ⟨M, e, hr⟩ := hq
  exact ⟨M, by rw [e, hov_mrg], hr⟩
theorem E_iretf {x r : Int32} {ty : FieldType} {M : List (Nat × AC)} (hd : decode Y.2.1 pc = .ok (.ireturn, 1)) (hr : Y.2.2.2.1 = some ty) (hn : narrow ty (.int r) = .int r) (hx : x = r) (hL : L = M) : E Y d pc l [.int x] (hov hp L) (fun v h => v = some (.int r) ∧ h = hov hp M) := by
  subst hx; subst hL
  exact E_iret (st := []) hd hr hn ⟨rfl, rfl⟩
theorem E_lretf {x r : Int64} {M : List (Nat × AC)} (hd : decode Y.2.1 pc = .ok (.lreturn, 1)) (hr : Y.2.2.2.1 = some .long) (hx : x = r) (hL : L = M) : E Y d pc l [.long x] (hov hp L) (fun v h => v = some (.long r) ∧ h = hov hp M) := by
  subst hx; subst hL
  exact E_lret (st := []) hd hr ⟨rfl, rfl⟩
theorem E_vretf {M : List (Nat × AC)} (hd : decode Y.2.1 pc = .ok (.return_, 1)) (hr : Y.2.2.2.1 = none) (hL : L = M) : E Y d pc l [] (hov hp L) (fun v h => v = none ∧ h = hov hp M) := by
  subst hL
  exact E_vret (st := []) hd hr ⟨rfl, rfl⟩
theorem E_Mabs {index : Nat} {x : Int32} (hd : decode Y.2.1 pc = .ok (.invokestatic index, 3)) (hlk : Cond.methodLink Y.1 index Lib.Math.abs.name ∈ gtbl) (hroom : (st.map fun v => v.category).sum ≤ 8) (kk : E Y (d + 1) (pc + 3) l (.int (absI x) :: st) hp Q) : E Y (d + 1) pc l (.int x :: st) hp Q := E_mabs hd hlk hroom kk
theorem E_Mmax {index : Nat} {x y : Int32} (hd : decode Y.2.1 pc = .ok (.invokestatic index, 3)) (hlk : Cond.methodLink Y.1 index Lib.Math.max.name ∈ gtbl) (hroom : (st.map fun v => v.category).sum ≤ 8) (kk : E Y (d + 1) (pc + 3) l (.int (maxI x y) :: st) hp Q) : E Y (d + 1) pc l (.int y :: .int x :: st) hp Q := E_mmax hd hlk hroom kk
theorem E_Mmin {index : Nat} {x y : Int32} (hd : decode Y.2.1 pc = .ok (.invokestatic index, 3)) (hlk : Cond.methodLink Y.1 index Lib.Math.min.name ∈ gtbl) (hroom : (st.map fun v => v.category).sum ≤ 8) (kk : E Y (d + 1) (pc + 3) l (.int (minI x y) :: st) hp Q) : E Y (d + 1) pc l (.int y :: .int x :: st) hp Q := E_mmin hd hlk hroom kk
end
