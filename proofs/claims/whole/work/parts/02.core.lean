/-! abstract cells, abstract heaps: the world's 48 cells bear the numbers 0 .. 49 without 34 and 36; 50 is the script -/
abbrev AC : Type := (Bool × Nat × (Nat → Int32)) ⊕ (Nat × List Value)
abbrev HP : Type := Nat → AC
abbrev MY : Type := String × ByteArray × Nat × Option FieldType × Option (Nat × (Nat → Int32))
def cv (ad : Nat → Nat) : Value → Value
  | .ref k => .ref (ad k)
  | .int x => .int x
  | .long x => .long x
  | .float x => .float x
  | .double x => .double x
  | .null => .null
  | .retAddr x => .retAddr x
def cE (ad : Nat → Nat) (cI cZ : ClassId) : AC → va_E
  | .inl (z, n, f) => .inl (if z then cZ else cI, n, .inl f)
  | .inr (ci, fs) => .inr (ci, fs.map (cv ad))
def wunp (i : Nat) : Nat := if i < 34 then i else if i < 35 then i + 1 else i + 2
def wpos (k : Nat) : Nat := if k < 34 then k else if k < 36 then k - 1 else k - 2
abbrev LV (k : Nat) : Prop := wpos k < 48 ∧ wunp (wpos k) = k
theorem wpos_unp (i : Nat) : wpos (wunp i) = i := by
  unfold wpos wunp
  by_cases h1 : i < 34
  · rw [if_pos h1, if_pos h1]
  · rw [if_neg h1]
    by_cases h2 : i < 35
    · rw [if_pos h2, if_neg (by omega), if_pos (by omega)]; omega
    · rw [if_neg h2, if_neg (by omega), if_neg (by omega)]; omega
theorem wunp_ne {i k : Nat} (h : ¬ i = wpos k) : ¬ wunp i = k := fun e => h (by rw [← e, wpos_unp])
def mkW (ad : Nat → Nat) (cI cZ : ClassId) (hp : HP) : va_W := (List.range 48).map (fun i => (ad (wunp i), cE ad cI cZ (hp (wunp i))))
def hup (hp : HP) (k : Nat) (x : AC) : HP := fun j => if j = k then x else hp j
theorem cv_cat (ad : Nat → Nat) (v : Value) : (cv ad v).category = v.category := by cases v <;> rfl
theorem mkW_at {ad : Nat → Nat} {cI cZ : ClassId} {hp : HP} {i : Nat} (h : i < 48) : (mkW ad cI cZ hp)[i]? = some (ad (wunp i), cE ad cI cZ (hp (wunp i))) := by
  simp [mkW, List.getElem?_map, List.getElem?_range h]
theorem mkW_get {ad : Nat → Nat} {cI cZ : ClassId} {hp : HP} {k : Nat} (h : LV k) : (mkW ad cI cZ hp)[wpos k]? = some (ad k, cE ad cI cZ (hp k)) := by
  rw [mkW_at h.1, h.2]
theorem mkW_inv {ad : Nat → Nat} {cI cZ : ClassId} {hp : HP} {i : Nat} {q : Nat × va_E} (h : (mkW ad cI cZ hp)[i]? = some q) : i < 48 ∧ q = (ad (wunp i), cE ad cI cZ (hp (wunp i))) := by
  have hk : i < 48 := by
    have := (List.getElem?_eq_some_iff.mp h).1
    simpa [mkW] using this
  rw [mkW_at hk] at h
  exact ⟨hk, (Option.some.inj h).symm⟩
theorem mkW_set {ad : Nat → Nat} {cI cZ : ClassId} {hp : HP} {k : Nat} {x : AC} (h : LV k) : (mkW ad cI cZ hp).set (wpos k) (ad k, cE ad cI cZ x) = mkW ad cI cZ (hup hp k x) := by
  apply List.ext_getElem?
  intro i
  by_cases hi : i = wpos k
  · subst hi
    have hl : wpos k < (mkW ad cI cZ hp).length := by simpa [mkW] using h.1
    rw [List.getElem?_set_self hl, mkW_get h]
    simp [hup]
  · rw [List.getElem?_set_ne (Ne.symm hi)]
    by_cases hlt : i < 48
    · rw [mkW_at hlt, mkW_at hlt]
      simp [hup, wunp_ne hi]
    · have h1 : (mkW ad cI cZ hp)[i]? = none := by simp [mkW]; omega
      have h2 : (mkW ad cI cZ (hup hp k x))[i]? = none := by simp [mkW]; omega
      rw [h1, h2]
theorem mkW_D {ad : Nat → Nat} {cI cZ : ClassId} {hp hp' : HP} {A : Nat → Prop} (h : va_D A (mkW ad cI cZ hp)) : va_D A (mkW ad cI cZ hp') := by
  refine ⟨fun i j p q hi hj e => ?_, fun k q hk => ?_⟩
  · obtain ⟨h1, rfl⟩ := mkW_inv hi
    obtain ⟨h2, rfl⟩ := mkW_inv hj
    exact h.1 i j _ _ (mkW_at h1) (mkW_at h2) e
  · obtain ⟨h1, rfl⟩ := mkW_inv hk
    exact h.2 k (ad (wunp k), cE ad cI cZ (hp (wunp k))) (mkW_at h1)
theorem mkW_A {ad : Nat → Nat} {cI cZ : ClassId} {hp hp' : HP} {sz q : Nat} (h : va_A (mkW ad cI cZ hp) sz q) : va_A (mkW ad cI cZ hp') sz q := by
  rcases h with ⟨k, e, h⟩ | h
  · obtain ⟨h1, h2⟩ := mkW_inv h
    refine Or.inl ⟨k, cE ad cI cZ (hp' (wunp k)), ?_⟩
    rw [mkW_at h1]
    cases h2
    rfl
  · exact Or.inr h
/-! the words of the tables that go into every method; the words of nest mates, beside them -/
def gtbl : List Cond := lw_tbl.filter goodWord
def nests : List (String × Nat × MethodName × String) := [(RX3, 30, yX6_isIn, RX6), (RX0, 43, yX6_hasBit, RX6), (RX5, 81, yX6_hasBit, RX6), (RX1, 30, yX6_hasBit, RX6), (RX4, 22, yX6_colourOf, RX6)]
theorem gtbl_in {w : Cond} (i : Nat) (h : lw_tbl[i]? = some w) (hg : goodWord w = true) : w ∈ gtbl := List.mem_filter.mpr ⟨List.mem_of_getElem? h, hg⟩
theorem gtbl_lw {w : Cond} (h : w ∈ gtbl) : w ∈ lw_tbl := (List.mem_filter.mp h).1
theorem gtbl_good {w : Cond} (h : w ∈ gtbl) : (w.onTables && w.keeps) = true ∨ ∃ ty, w = .arrayClass ty := good_of_word (List.mem_filter.mp h).2
/-! locals -/
def alf (ad : Nat → Nat) : Nat → List Value → List (Nat × Value)
  | _, [] => []
  | i, .null :: r => alf ad (i + 1) r
  | i, v :: r => (i, cv ad v) :: alf ad (i + 1) r
theorem alf_cons {ad : Nat → Nat} {i : Nat} {v : Value} {r : List Value} (h : v ≠ .null) : alf ad i (v :: r) = (i, cv ad v) :: alf ad (i + 1) r := by
  cases v <;> first | rfl | exact absurd rfl h
theorem alf_get {ad : Nat → Nat} : ∀ (l : List Value) (i k : Nat) (v : Value), l[k]? = some v → v ≠ .null → (i + k, cv ad v) ∈ alf ad i l
  | [], i, k, v, h, _ => by simp at h
  | a :: r, i, 0, v, h, hv => by
    simp at h
    subst h
    rw [alf_cons hv]
    exact List.mem_cons_self
  | a :: r, i, k + 1, v, h, hv => by
    rw [List.getElem?_cons_succ] at h
    have := alf_get (ad := ad) r (i + 1) k v h hv
    rw [show i + (k + 1) = i + 1 + k by omega]
    by_cases ha : a = .null
    · subst ha
      exact this
    · rw [alf_cons ha]
      exact List.mem_cons_of_mem _ this
theorem alf_mem {ad : Nat → Nat} : ∀ (l : List Value) (i : Nat) (q : Nat × Value), q ∈ alf ad i l → ∃ (k : Nat) (v : Value), l[k]? = some v ∧ v ≠ .null ∧ q = (i + k, cv ad v)
  | [], i, q, h => by simp [alf] at h
  | a :: r, i, q, h => by
    by_cases ha : a = .null
    · subst ha
      obtain ⟨k, v, h1, h2, h3⟩ := alf_mem r (i + 1) q h
      exact ⟨k + 1, v, by rw [List.getElem?_cons_succ]; exact h1, h2, by rw [h3, show i + 1 + k = i + (k + 1) by omega]⟩
    · rw [alf_cons ha] at h
      rcases List.mem_cons.mp h with h | h
      · exact ⟨0, a, rfl, ha, h⟩
      · obtain ⟨k, v, h1, h2, h3⟩ := alf_mem r (i + 1) q h
        exact ⟨k + 1, v, by rw [List.getElem?_cons_succ]; exact h1, h2, by rw [h3, show i + 1 + k = i + (k + 1) by omega]⟩
def lvr (ad : Nat → Nat) (ls : Array Slot) (n : Nat) (l : List Value) : Prop := lv_has ls n (alf ad 0 l)
theorem lvr_at {ad : Nat → Nat} {ls : Array Slot} {n : Nat} {l : List Value} (h : lvr ad ls n l) {k : Nat} {v : Value} (hk : l[k]? = some v) (hv : v ≠ .null) : ls[k]? = some (.val (cv ad v)) := by
  have := h.2.2 _ (alf_get (ad := ad) l 0 k v hk hv)
  simpa using this
def clrV : Value → Value
  | .long _ => .null
  | .double _ => .null
  | v => v
def stI : List Value → Nat → Value → List Value
  | [], _, _ => []
  | _ :: l, 0, v => v :: l
  | a :: l, 1, v => clrV a :: stI l 0 v
  | a :: l, n + 2, v => a :: stI l (n + 1) v
def stL : List Value → Nat → Value → List Value
  | [], _, _ => []
  | [_], 0, v => [v]
  | _ :: _ :: l, 0, v => v :: .null :: l
  | a :: l, 1, v => clrV a :: stL l 0 v
  | a :: l, n + 2, v => a :: stL l (n + 1) v
theorem clrV_eq {a v : Value} (h : clrV a = v) (hv : v ≠ .null) : a = v ∧ ¬ v.category = 2 := by
  cases a <;> first | (subst h; exact ⟨rfl, by simp [clrV, Value.category]⟩) | exact absurd h.symm hv
theorem stI_get : ∀ (l : List Value) (i k : Nat) (x v : Value), (stI l i x)[k]? = some v → v ≠ .null → (k = i ∧ v = x) ∨ (k ≠ i ∧ l[k]? = some v ∧ ¬ (k + 1 = i ∧ v.category = 2))
  | [], i, k, x, v, h, _ => by simp [stI] at h
  | a :: l, 0, 0, x, v, h, hv => by
    simp [stI] at h
    exact Or.inl ⟨rfl, h.symm⟩
  | a :: l, 0, k + 1, x, v, h, hv => by
    refine Or.inr ⟨by omega, ?_, by omega⟩
    simpa [stI] using h
  | a :: l, 1, 0, x, v, h, hv => by
    simp [stI] at h
    obtain ⟨h1, h2⟩ := clrV_eq h hv
    subst h1
    exact Or.inr ⟨by omega, rfl, fun q => h2 q.2⟩
  | a :: l, 1, k + 1, x, v, h, hv => by
    rw [stI, List.getElem?_cons_succ] at h
    rcases stI_get l 0 k x v h hv with ⟨h1, h2⟩ | ⟨h1, h2, h3⟩
    · exact Or.inl ⟨by omega, h2⟩
    · exact Or.inr ⟨by omega, by rw [List.getElem?_cons_succ]; exact h2, by omega⟩
  | a :: l, n + 2, 0, x, v, h, hv => by
    simp [stI] at h
    exact Or.inr ⟨by omega, by simp [h], by omega⟩
  | a :: l, n + 2, k + 1, x, v, h, hv => by
    rw [stI, List.getElem?_cons_succ] at h
    rcases stI_get l (n + 1) k x v h hv with ⟨h1, h2⟩ | ⟨h1, h2, h3⟩
    · exact Or.inl ⟨by omega, h2⟩
    · exact Or.inr ⟨by omega, by rw [List.getElem?_cons_succ]; exact h2, fun q => h3 ⟨by omega, q.2⟩⟩
theorem stL_get : ∀ (l : List Value) (i k : Nat) (x v : Value), (stL l i x)[k]? = some v → v ≠ .null → (k = i ∧ v = x) ∨ (k ≠ i ∧ k ≠ i + 1 ∧ l[k]? = some v ∧ ¬ (k + 1 = i ∧ v.category = 2))
  | [], i, k, x, v, h, _ => by simp [stL] at h
  | [a], 0, 0, x, v, h, hv => by
    simp [stL] at h
    exact Or.inl ⟨rfl, h.symm⟩
  | [a], 0, k + 1, x, v, h, hv => by simp [stL] at h
  | a :: b :: l, 0, 0, x, v, h, hv => by
    simp [stL] at h
    exact Or.inl ⟨rfl, h.symm⟩
  | a :: b :: l, 0, 1, x, v, h, hv => by
    simp [stL] at h
    exact absurd h.symm hv
  | a :: b :: l, 0, k + 2, x, v, h, hv => by
    refine Or.inr ⟨by omega, by omega, ?_, by omega⟩
    simpa [stL] using h
  | [a], 1, 0, x, v, h, hv => by
    simp [stL] at h
    obtain ⟨h1, h2⟩ := clrV_eq h hv
    subst h1
    exact Or.inr ⟨by omega, by omega, rfl, fun q => h2 q.2⟩
  | [a], 1, k + 1, x, v, h, hv => by simp [stL] at h
  | a :: b :: l, 1, 0, x, v, h, hv => by
    rw [stL] at h
    simp at h
    obtain ⟨h1, h2⟩ := clrV_eq h hv
    subst h1
    exact Or.inr ⟨by omega, by omega, rfl, fun q => h2 q.2⟩
  | a :: b :: l, 1, k + 1, x, v, h, hv => by
    rw [stL, List.getElem?_cons_succ] at h
    rcases stL_get (b :: l) 0 k x v h hv with ⟨h1, h2⟩ | ⟨h1, h2, h3, h4⟩
    · exact Or.inl ⟨by omega, h2⟩
    · exact Or.inr ⟨by omega, by omega, by rw [List.getElem?_cons_succ]; exact h3, by omega⟩
  | a :: l, n + 2, 0, x, v, h, hv => by
    have h' : a = v := by cases l <;> simpa [stL] using h
    exact Or.inr ⟨by omega, by omega, by simp [h'], by omega⟩
  | a :: l, n + 2, k + 1, x, v, h, hv => by
    have h' : (stL l (n + 1) x)[k]? = some v := by cases l <;> simpa [stL] using h
    rcases stL_get l (n + 1) k x v h' hv with ⟨h1, h2⟩ | ⟨h1, h2, h3, h4⟩
    · exact Or.inl ⟨by omega, h2⟩
    · exact Or.inr ⟨by omega, by omega, by rw [List.getElem?_cons_succ]; exact h3, fun q => h4 ⟨by omega, q.2⟩⟩
theorem lvr_st1 {ad : Nat → Nat} {ls : Array Slot} {n i : Nat} {l : List Value} {x : Value} (h : lv_has ls n ((i, cv ad x) :: (alf ad 0 l).filter (fun q => !(q.1 == i) && !(q.1 + 1 == i && q.2.category == 2)))) : lvr ad ls n (stI l i x) := by
  refine ⟨h.1, h.2.1, fun q hq => ?_⟩
  obtain ⟨k, v, h1, h2, rfl⟩ := alf_mem _ _ _ hq
  rw [Nat.zero_add]
  rcases stI_get l i k x v h1 h2 with ⟨rfl, rfl⟩ | ⟨h3, h4, h5⟩
  · exact h.2.2 _ List.mem_cons_self
  · refine h.2.2 (k, cv ad v) (List.mem_cons_of_mem _ (List.mem_filter.mpr ⟨?_, ?_⟩))
    · have := alf_get (ad := ad) l 0 k v h4 h2
      simpa using this
    · simp only [Bool.and_eq_true, Bool.not_eq_true', beq_eq_false_iff_ne, Bool.and_eq_false_iff, cv_cat]
      refine ⟨h3, ?_⟩
      by_cases hk : k + 1 = i
      · exact Or.inr (fun q => h5 ⟨hk, q⟩)
      · exact Or.inl hk
theorem lvr_st2 {ad : Nat → Nat} {ls : Array Slot} {n i : Nat} {l : List Value} {x : Value} (h : lv_has ls n ((i, cv ad x) :: (alf ad 0 l).filter (fun q => !(q.1 == i) && (!(q.1 == i + 1) && !(q.1 + 1 == i && q.2.category == 2))))) : lvr ad ls n (stL l i x) := by
  refine ⟨h.1, h.2.1, fun q hq => ?_⟩
  obtain ⟨k, v, h1, h2, rfl⟩ := alf_mem _ _ _ hq
  rw [Nat.zero_add]
  rcases stL_get l i k x v h1 h2 with ⟨rfl, rfl⟩ | ⟨h3, h3', h4, h5⟩
  · exact h.2.2 _ List.mem_cons_self
  · refine h.2.2 (k, cv ad v) (List.mem_cons_of_mem _ (List.mem_filter.mpr ⟨?_, ?_⟩))
    · have := alf_get (ad := ad) l 0 k v h4 h2
      simpa using this
    · simp only [Bool.and_eq_true, Bool.not_eq_true', beq_eq_false_iff_ne, Bool.and_eq_false_iff, cv_cat]
      refine ⟨h3, h3', ?_⟩
      by_cases hk : k + 1 = i
      · exact Or.inr (fun q => h5 ⟨hk, q⟩)
      · exact Or.inl hk
/-- the locals at a method's entry -/
def entL : List Value → List Value
  | [] => []
  | v :: vs => if v.category = 2 then v :: .null :: entL vs else v :: entL vs
def ent (n : Nat) (vs : List Value) : List Value := entL vs ++ List.replicate (n - (entL vs).length) .null

/-! the judgement -/
def CXT (Y : MY) (d : Nat) (p : Program) (R : Room) (s : State) (m : MethodId) (args : Array Value) (meth : Method) (c : Code) (cells slots : Nat) : Prop :=
  p.tables.exec = Jvm.exec ∧ c.code = Y.2.1 ∧ c.maxLocals = Y.2.2.1 ∧ meth.sig.returnType = Y.2.2.2.1 ∧ meth.locks = false ∧ s.vm.findClass Y.1 = some m.cls ∧ (∀ w ∈ gtbl, w.before args s = true) ∧ (∀ q ∈ nests, va_Nw (.methodLinkNest q.1 q.2.1 q.2.2.1 q.2.2.2) s) ∧ d ≤ R.frames ∧ 40 * d ≤ R.locals ∧ cells ≤ R.cells ∧ slots ≤ R.slots
def WLD (Y : MY) (ad : Nat → Nat) (D : va_G) (cI cZ : ClassId) (A : Nat → Prop) (H0 : Heap) (s : State) (hp : HP) (H : Heap) (locs : List Loc) : Prop :=
  va_K D vwCl [(cI, .int), (cZ, .boolean)] s ∧ va_P D vwCl (mkW ad cI cZ hp) H ∧ va_D A (mkW ad cI cZ hp) ∧ va_S A H0 H locs ∧ (∀ q, H0.size ≤ q → A q) ∧ (match Y.2.2.2.2 with
    | none => True
    | some (L, xs) => va_X (ad 50) L xs s H0 ∧ ad 50 < H0.size ∧ ¬ A (ad 50))
/-- how a method may end: the return instruction at pc, with v -/
def RTN (Y : MY) (pc : Nat) (v : Option Value) : Prop :=
  (∃ (x : Int32) (ty : FieldType), v = some (.int x) ∧ decode Y.2.1 pc = .ok (.ireturn, 1) ∧ Y.2.2.2.1 = some ty ∧ narrow ty (.int x) = .int x) ∨ (∃ x : Int64, v = some (.long x) ∧ decode Y.2.1 pc = .ok (.lreturn, 1) ∧ Y.2.2.2.1 = some .long) ∨ (v = none ∧ decode Y.2.1 pc = .ok (.return_, 1) ∧ Y.2.2.2.1 = none)
def E (Y : MY) (d : Nat) (pc : Nat) (l st : List Value) (hp : HP) (Q : Option Value → HP → Prop) : Prop :=
  ∀ (p : Program) (lch : Launch) (e : Env) (R : Room) (s : State) (m : MethodId) (args : Array Value) (below : List Frame) (meth : Method) (c : Code) (H : Heap) (locs : List Loc) (cells slots : Nat) (ad : Nat → Nat) (D : va_G) (cI cZ : ClassId) (A : Nat → Prop) (H0 : Heap) (Qm : State → Prop) (ls : Array Slot), CXT Y d p R s m args meth c cells slots → WLD Y ad D cI cZ A H0 s hp H locs → lvr ad ls Y.2.2.1 l →
    (∀ (v : Option Value) (hp' : HP) (H' : Heap) (locs' : List Loc) (pc' : Nat) (ls' : Array Slot), Q v hp' → WLD Y ad D cI cZ A H0 s hp' H' locs' → RTN Y pc' v → W p lch e R s m args below meth c H' locs' cells slots Qm (F0 m pc' ls' (v.toList.map (cv ad)))) →
    W p lch e R s m args below meth c H locs cells slots Qm (F0 m pc ls (st.map (cv ad)))

theorem E_iconst {Y : MY} {d pc : Nat} {l st : List Value} {hp : HP} {Q : Option Value → HP → Prop} {n : Int} {v : Int32} (hd : decode Y.2.1 pc = .ok (.iconst n, 1)) (hv : Int32.ofInt n = v) (kk : E Y d (pc + 1) l (.int v :: st) hp Q) : E Y d pc l st hp Q := by
  intro p lch e R s m args below meth c H locs cells slots ad D cI cZ A H0 Qm ls hC hW hl hR
  exact lv_iconst hC.1 hC.2.1 hd hv (kk p lch e R s m args below meth c H locs cells slots ad D cI cZ A H0 Qm ls hC hW hl hR)

theorem E_bipush {Y : MY} {d pc : Nat} {l st : List Value} {hp : HP} {Q : Option Value → HP → Prop} {n : Int} {v : Int32} (hd : decode Y.2.1 pc = .ok (.bipush n, 2)) (hv : (Int8.ofInt n).toInt32 = v) (kk : E Y d (pc + 2) l (.int v :: st) hp Q) : E Y d pc l st hp Q := by
  intro p lch e R s m args below meth c H locs cells slots ad D cI cZ A H0 Qm ls hC hW hl hR
  exact lv_bipush hC.1 hC.2.1 hd hv (kk p lch e R s m args below meth c H locs cells slots ad D cI cZ A H0 Qm ls hC hW hl hR)

theorem E_sipush {Y : MY} {d pc : Nat} {l st : List Value} {hp : HP} {Q : Option Value → HP → Prop} {n : Int} {v : Int32} (hd : decode Y.2.1 pc = .ok (.sipush n, 3)) (hv : (Int16.ofInt n).toInt32 = v) (kk : E Y d (pc + 3) l (.int v :: st) hp Q) : E Y d pc l st hp Q := by
  intro p lch e R s m args below meth c H locs cells slots ad D cI cZ A H0 Qm ls hC hW hl hR
  exact lv_sipush hC.1 hC.2.1 hd hv (kk p lch e R s m args below meth c H locs cells slots ad D cI cZ A H0 Qm ls hC hW hl hR)

theorem E_lconst {Y : MY} {d pc : Nat} {l st : List Value} {hp : HP} {Q : Option Value → HP → Prop} {n : Fin 2} {v : Int64} (hd : decode Y.2.1 pc = .ok (.lconst n, 1)) (hv : Int64.ofNat (n : Nat) = v) (kk : E Y d (pc + 1) l (.long v :: st) hp Q) : E Y d pc l st hp Q := by
  intro p lch e R s m args below meth c H locs cells slots ad D cI cZ A H0 Qm ls hC hW hl hR
  exact lv_lconst hC.1 hC.2.1 hd hv (kk p lch e R s m args below meth c H locs cells slots ad D cI cZ A H0 Qm ls hC hW hl hR)

theorem E_iadd {Y : MY} {d pc : Nat} {l st : List Value} {hp : HP} {Q : Option Value → HP → Prop} {x y : Int32} (hd : decode Y.2.1 pc = .ok (.iadd, 1))  (kk : E Y d (pc + 1) l (.int (x + y) :: st) hp Q) : E Y d pc l (.int y :: .int x :: st) hp Q := by
  intro p lch e R s m args below meth c H locs cells slots ad D cI cZ A H0 Qm ls hC hW hl hR
  exact lv_iadd hC.1 hC.2.1 hd  (kk p lch e R s m args below meth c H locs cells slots ad D cI cZ A H0 Qm ls hC hW hl hR)

theorem E_isub {Y : MY} {d pc : Nat} {l st : List Value} {hp : HP} {Q : Option Value → HP → Prop} {x y : Int32} (hd : decode Y.2.1 pc = .ok (.isub, 1))  (kk : E Y d (pc + 1) l (.int (x - y) :: st) hp Q) : E Y d pc l (.int y :: .int x :: st) hp Q := by
  intro p lch e R s m args below meth c H locs cells slots ad D cI cZ A H0 Qm ls hC hW hl hR
  exact lv_isub hC.1 hC.2.1 hd  (kk p lch e R s m args below meth c H locs cells slots ad D cI cZ A H0 Qm ls hC hW hl hR)

theorem E_imul {Y : MY} {d pc : Nat} {l st : List Value} {hp : HP} {Q : Option Value → HP → Prop} {x y : Int32} (hd : decode Y.2.1 pc = .ok (.imul, 1))  (kk : E Y d (pc + 1) l (.int (x * y) :: st) hp Q) : E Y d pc l (.int y :: .int x :: st) hp Q := by
  intro p lch e R s m args below meth c H locs cells slots ad D cI cZ A H0 Qm ls hC hW hl hR
  exact lv_imul hC.1 hC.2.1 hd  (kk p lch e R s m args below meth c H locs cells slots ad D cI cZ A H0 Qm ls hC hW hl hR)

theorem E_iand {Y : MY} {d pc : Nat} {l st : List Value} {hp : HP} {Q : Option Value → HP → Prop} {x y : Int32} (hd : decode Y.2.1 pc = .ok (.iand, 1))  (kk : E Y d (pc + 1) l (.int (x &&& y) :: st) hp Q) : E Y d pc l (.int y :: .int x :: st) hp Q := by
  intro p lch e R s m args below meth c H locs cells slots ad D cI cZ A H0 Qm ls hC hW hl hR
  exact lv_iand hC.1 hC.2.1 hd  (kk p lch e R s m args below meth c H locs cells slots ad D cI cZ A H0 Qm ls hC hW hl hR)

theorem E_ior {Y : MY} {d pc : Nat} {l st : List Value} {hp : HP} {Q : Option Value → HP → Prop} {x y : Int32} (hd : decode Y.2.1 pc = .ok (.ior, 1))  (kk : E Y d (pc + 1) l (.int (x ||| y) :: st) hp Q) : E Y d pc l (.int y :: .int x :: st) hp Q := by
  intro p lch e R s m args below meth c H locs cells slots ad D cI cZ A H0 Qm ls hC hW hl hR
  exact lv_ior hC.1 hC.2.1 hd  (kk p lch e R s m args below meth c H locs cells slots ad D cI cZ A H0 Qm ls hC hW hl hR)

theorem E_ixor {Y : MY} {d pc : Nat} {l st : List Value} {hp : HP} {Q : Option Value → HP → Prop} {x y : Int32} (hd : decode Y.2.1 pc = .ok (.ixor, 1))  (kk : E Y d (pc + 1) l (.int (x ^^^ y) :: st) hp Q) : E Y d pc l (.int y :: .int x :: st) hp Q := by
  intro p lch e R s m args below meth c H locs cells slots ad D cI cZ A H0 Qm ls hC hW hl hR
  exact lv_ixor hC.1 hC.2.1 hd  (kk p lch e R s m args below meth c H locs cells slots ad D cI cZ A H0 Qm ls hC hW hl hR)

theorem E_lmul {Y : MY} {d pc : Nat} {l st : List Value} {hp : HP} {Q : Option Value → HP → Prop} {x y : Int64} (hd : decode Y.2.1 pc = .ok (.lmul, 1))  (kk : E Y d (pc + 1) l (.long (x * y) :: st) hp Q) : E Y d pc l (.long y :: .long x :: st) hp Q := by
  intro p lch e R s m args below meth c H locs cells slots ad D cI cZ A H0 Qm ls hC hW hl hR
  exact lv_lmul hC.1 hC.2.1 hd  (kk p lch e R s m args below meth c H locs cells slots ad D cI cZ A H0 Qm ls hC hW hl hR)

theorem E_land {Y : MY} {d pc : Nat} {l st : List Value} {hp : HP} {Q : Option Value → HP → Prop} {x y : Int64} (hd : decode Y.2.1 pc = .ok (.land, 1))  (kk : E Y d (pc + 1) l (.long (x &&& y) :: st) hp Q) : E Y d pc l (.long y :: .long x :: st) hp Q := by
  intro p lch e R s m args below meth c H locs cells slots ad D cI cZ A H0 Qm ls hC hW hl hR
  exact lv_land hC.1 hC.2.1 hd  (kk p lch e R s m args below meth c H locs cells slots ad D cI cZ A H0 Qm ls hC hW hl hR)

theorem E_lor {Y : MY} {d pc : Nat} {l st : List Value} {hp : HP} {Q : Option Value → HP → Prop} {x y : Int64} (hd : decode Y.2.1 pc = .ok (.lor, 1))  (kk : E Y d (pc + 1) l (.long (x ||| y) :: st) hp Q) : E Y d pc l (.long y :: .long x :: st) hp Q := by
  intro p lch e R s m args below meth c H locs cells slots ad D cI cZ A H0 Qm ls hC hW hl hR
  exact lv_lor hC.1 hC.2.1 hd  (kk p lch e R s m args below meth c H locs cells slots ad D cI cZ A H0 Qm ls hC hW hl hR)

theorem E_ishl {Y : MY} {d pc : Nat} {l st : List Value} {hp : HP} {Q : Option Value → HP → Prop} {x y : Int32} (hd : decode Y.2.1 pc = .ok (.ishl, 1))  (kk : E Y d (pc + 1) l (.int (x <<< (y &&& 31)) :: st) hp Q) : E Y d pc l (.int y :: .int x :: st) hp Q := by
  intro p lch e R s m args below meth c H locs cells slots ad D cI cZ A H0 Qm ls hC hW hl hR
  exact lv_ishl hC.1 hC.2.1 hd  (kk p lch e R s m args below meth c H locs cells slots ad D cI cZ A H0 Qm ls hC hW hl hR)

theorem E_ishr {Y : MY} {d pc : Nat} {l st : List Value} {hp : HP} {Q : Option Value → HP → Prop} {x y : Int32} (hd : decode Y.2.1 pc = .ok (.ishr, 1))  (kk : E Y d (pc + 1) l (.int (x >>> (y &&& 31)) :: st) hp Q) : E Y d pc l (.int y :: .int x :: st) hp Q := by
  intro p lch e R s m args below meth c H locs cells slots ad D cI cZ A H0 Qm ls hC hW hl hR
  exact lv_ishr hC.1 hC.2.1 hd  (kk p lch e R s m args below meth c H locs cells slots ad D cI cZ A H0 Qm ls hC hW hl hR)

theorem E_ineg {Y : MY} {d pc : Nat} {l st : List Value} {hp : HP} {Q : Option Value → HP → Prop} {x : Int32} (hd : decode Y.2.1 pc = .ok (.ineg, 1))  (kk : E Y d (pc + 1) l (.int (-x) :: st) hp Q) : E Y d pc l (.int x :: st) hp Q := by
  intro p lch e R s m args below meth c H locs cells slots ad D cI cZ A H0 Qm ls hC hW hl hR
  exact lv_ineg hC.1 hC.2.1 hd  (kk p lch e R s m args below meth c H locs cells slots ad D cI cZ A H0 Qm ls hC hW hl hR)

theorem E_idiv {Y : MY} {d pc : Nat} {l st : List Value} {hp : HP} {Q : Option Value → HP → Prop} {x y : Int32} (hd : decode Y.2.1 pc = .ok (.idiv, 1)) (hne : ¬ y = 0) (kk : E Y d (pc + 1) l (.int (x / y) :: st) hp Q) : E Y d pc l (.int y :: .int x :: st) hp Q := by
  intro p lch e R s m args below meth c H locs cells slots ad D cI cZ A H0 Qm ls hC hW hl hR
  exact lv_idiv hC.1 hC.2.1 hd hne (kk p lch e R s m args below meth c H locs cells slots ad D cI cZ A H0 Qm ls hC hW hl hR)

def rmI (x y : Int32) : Int32 := x - x / y * y
def rmL (x y : Int64) : Int64 := x - x / y * y

theorem E_irem {Y : MY} {d pc : Nat} {l st : List Value} {hp : HP} {Q : Option Value → HP → Prop} {x y : Int32} (hd : decode Y.2.1 pc = .ok (.irem, 1)) (hne : ¬ y = 0) (kk : E Y d (pc + 1) l (.int (rmI x y) :: st) hp Q) : E Y d pc l (.int y :: .int x :: st) hp Q := by
  intro p lch e R s m args below meth c H locs cells slots ad D cI cZ A H0 Qm ls hC hW hl hR
  exact lv_irem hC.1 hC.2.1 hd hne (kk p lch e R s m args below meth c H locs cells slots ad D cI cZ A H0 Qm ls hC hW hl hR)

theorem E_ldiv {Y : MY} {d pc : Nat} {l st : List Value} {hp : HP} {Q : Option Value → HP → Prop} {x y : Int64} (hd : decode Y.2.1 pc = .ok (.ldiv, 1)) (hne : ¬ y = 0) (kk : E Y d (pc + 1) l (.long (x / y) :: st) hp Q) : E Y d pc l (.long y :: .long x :: st) hp Q := by
  intro p lch e R s m args below meth c H locs cells slots ad D cI cZ A H0 Qm ls hC hW hl hR
  exact lv_ldiv hC.1 hC.2.1 hd hne (kk p lch e R s m args below meth c H locs cells slots ad D cI cZ A H0 Qm ls hC hW hl hR)

theorem E_lrem {Y : MY} {d pc : Nat} {l st : List Value} {hp : HP} {Q : Option Value → HP → Prop} {x y : Int64} (hd : decode Y.2.1 pc = .ok (.lrem, 1)) (hne : ¬ y = 0) (kk : E Y d (pc + 1) l (.long (rmL x y) :: st) hp Q) : E Y d pc l (.long y :: .long x :: st) hp Q := by
  intro p lch e R s m args below meth c H locs cells slots ad D cI cZ A H0 Qm ls hC hW hl hR
  exact lv_lrem hC.1 hC.2.1 hd hne (kk p lch e R s m args below meth c H locs cells slots ad D cI cZ A H0 Qm ls hC hW hl hR)

theorem E_i2l {Y : MY} {d pc : Nat} {l st : List Value} {hp : HP} {Q : Option Value → HP → Prop} {x : Int32} (hd : decode Y.2.1 pc = .ok (.i2l, 1))  (kk : E Y d (pc + 1) l (.long x.toInt64 :: st) hp Q) : E Y d pc l (.int x :: st) hp Q := by
  intro p lch e R s m args below meth c H locs cells slots ad D cI cZ A H0 Qm ls hC hW hl hR
  exact lv_i2l hC.1 hC.2.1 hd rfl (kk p lch e R s m args below meth c H locs cells slots ad D cI cZ A H0 Qm ls hC hW hl hR)

theorem E_l2i {Y : MY} {d pc : Nat} {l st : List Value} {hp : HP} {Q : Option Value → HP → Prop} {x : Int64} (hd : decode Y.2.1 pc = .ok (.l2i, 1))  (kk : E Y d (pc + 1) l (.int x.toInt32 :: st) hp Q) : E Y d pc l (.long x :: st) hp Q := by
  intro p lch e R s m args below meth c H locs cells slots ad D cI cZ A H0 Qm ls hC hW hl hR
  exact lv_l2i hC.1 hC.2.1 hd rfl (kk p lch e R s m args below meth c H locs cells slots ad D cI cZ A H0 Qm ls hC hW hl hR)

theorem E_iushr {Y : MY} {d pc : Nat} {l st : List Value} {hp : HP} {Q : Option Value → HP → Prop} {x y : Int32} (hd : decode Y.2.1 pc = .ok (.iushr, 1))  (kk : E Y d (pc + 1) l (.int (x.toUInt32 >>> (y.toUInt32 &&& Int32.toUInt32 31)).toInt32 :: st) hp Q) : E Y d pc l (.int y :: .int x :: st) hp Q := by
  intro p lch e R s m args below meth c H locs cells slots ad D cI cZ A H0 Qm ls hC hW hl hR
  exact lv_iushr hC.1 hC.2.1 hd rfl (kk p lch e R s m args below meth c H locs cells slots ad D cI cZ A H0 Qm ls hC hW hl hR)

theorem E_lshl {Y : MY} {d pc : Nat} {l st : List Value} {hp : HP} {Q : Option Value → HP → Prop} {x : Int64} {y : Int32} (hd : decode Y.2.1 pc = .ok (.lshl, 1))  (kk : E Y d (pc + 1) l (.long (x <<< (y.toInt64 &&& 63)) :: st) hp Q) : E Y d pc l (.int y :: .long x :: st) hp Q := by
  intro p lch e R s m args below meth c H locs cells slots ad D cI cZ A H0 Qm ls hC hW hl hR
  exact lv_lshl hC.1 hC.2.1 hd rfl (kk p lch e R s m args below meth c H locs cells slots ad D cI cZ A H0 Qm ls hC hW hl hR)

theorem E_lshr {Y : MY} {d pc : Nat} {l st : List Value} {hp : HP} {Q : Option Value → HP → Prop} {x : Int64} {y : Int32} (hd : decode Y.2.1 pc = .ok (.lshr, 1))  (kk : E Y d (pc + 1) l (.long (x >>> (y.toInt64 &&& 63)) :: st) hp Q) : E Y d pc l (.int y :: .long x :: st) hp Q := by
  intro p lch e R s m args below meth c H locs cells slots ad D cI cZ A H0 Qm ls hC hW hl hR
  exact lv_lshr hC.1 hC.2.1 hd rfl (kk p lch e R s m args below meth c H locs cells slots ad D cI cZ A H0 Qm ls hC hW hl hR)

theorem E_lcmp {Y : MY} {d pc : Nat} {l st : List Value} {hp : HP} {Q : Option Value → HP → Prop} {x y : Int64} (hd : decode Y.2.1 pc = .ok (.lcmp, 1))  (kk : E Y d (pc + 1) l (.int (lg_cmp x y) :: st) hp Q) : E Y d pc l (.long y :: .long x :: st) hp Q := by
  intro p lch e R s m args below meth c H locs cells slots ad D cI cZ A H0 Qm ls hC hW hl hR
  exact W.lcmp hC.1 hC.2.1 hd  (kk p lch e R s m args below meth c H locs cells slots ad D cI cZ A H0 Qm ls hC hW hl hR)

theorem E_dup {Y : MY} {d pc : Nat} {l st : List Value} {hp : HP} {Q : Option Value → HP → Prop} {v : Value} (hd : decode Y.2.1 pc = .ok (.dup, 1)) (hv : v.category = 1) (kk : E Y d (pc + 1) l (v :: v :: st) hp Q) : E Y d pc l (v :: st) hp Q := by
  intro p lch e R s m args below meth c H locs cells slots ad D cI cZ A H0 Qm ls hC hW hl hR
  exact lv_dup hC.1 hC.2.1 hd ((cv_cat ad v).trans hv) (kk p lch e R s m args below meth c H locs cells slots ad D cI cZ A H0 Qm ls hC hW hl hR)

theorem E_pop {Y : MY} {d pc : Nat} {l st : List Value} {hp : HP} {Q : Option Value → HP → Prop} {v : Value} (hd : decode Y.2.1 pc = .ok (.pop, 1)) (hv : v.category = 1) (kk : E Y d (pc + 1) l st hp Q) : E Y d pc l (v :: st) hp Q := by
  intro p lch e R s m args below meth c H locs cells slots ad D cI cZ A H0 Qm ls hC hW hl hR
  exact lv_pop hC.1 hC.2.1 hd ((cv_cat ad v).trans hv) (kk p lch e R s m args below meth c H locs cells slots ad D cI cZ A H0 Qm ls hC hW hl hR)

theorem E_dup2 {Y : MY} {d pc : Nat} {l st : List Value} {hp : HP} {Q : Option Value → HP → Prop} {v w : Value} (hd : decode Y.2.1 pc = .ok (.dup2, 1)) (hv : v.category = 1) (hw : w.category = 1) (kk : E Y d (pc + 1) l (v :: w :: v :: w :: st) hp Q) : E Y d pc l (v :: w :: st) hp Q := by
  intro p lch e R s m args below meth c H locs cells slots ad D cI cZ A H0 Qm ls hC hW hl hR
  exact lv_dup2_11 hC.1 hC.2.1 hd ((cv_cat ad v).trans hv) ((cv_cat ad w).trans hw) (kk p lch e R s m args below meth c H locs cells slots ad D cI cZ A H0 Qm ls hC hW hl hR)

theorem E_ldc {Y : MY} {d pc : Nat} {l st : List Value} {hp : HP} {Q : Option Value → HP → Prop} {index : Nat} {v : Int32} (hd : decode Y.2.1 pc = .ok (.ldc index, 2)) (hw : Jvm.Cond.constant Y.1 index v ∈ gtbl) (kk : E Y d (pc + 2) l (.int v :: st) hp Q) : E Y d pc l st hp Q := by
  intro p lch e R s m args below meth c H locs cells slots ad D cI cZ A H0 Qm ls hC hW hl hR
  exact lv_ldc hC.1 hC.2.1 hC.2.2.2.2.2.1 (hC.2.2.2.2.2.2.1 _ hw) hd (kk p lch e R s m args below meth c H locs cells slots ad D cI cZ A H0 Qm ls hC hW hl hR)

theorem E_ldcw {Y : MY} {d pc : Nat} {l st : List Value} {hp : HP} {Q : Option Value → HP → Prop} {index : Nat} {v : Int32} (hd : decode Y.2.1 pc = .ok (.ldc_w index, 3)) (hw : Jvm.Cond.constant Y.1 index v ∈ gtbl) (kk : E Y d (pc + 3) l (.int v :: st) hp Q) : E Y d pc l st hp Q := by
  intro p lch e R s m args below meth c H locs cells slots ad D cI cZ A H0 Qm ls hC hW hl hR
  exact lv_ldcw hC.1 hC.2.1 hC.2.2.2.2.2.1 (hC.2.2.2.2.2.2.1 _ hw) hd (kk p lch e R s m args below meth c H locs cells slots ad D cI cZ A H0 Qm ls hC hW hl hR)

theorem E_ldc2 {Y : MY} {d pc : Nat} {l st : List Value} {hp : HP} {Q : Option Value → HP → Prop} {index : Nat} {v : Int64} (hd : decode Y.2.1 pc = .ok (.ldc2_w index, 3)) (hw : Jvm.Cond.constantLong Y.1 index v ∈ gtbl) (kk : E Y d (pc + 3) l (.long v :: st) hp Q) : E Y d pc l st hp Q := by
  intro p lch e R s m args below meth c H locs cells slots ad D cI cZ A H0 Qm ls hC hW hl hR
  exact lv_ldc2 hC.1 hC.2.1 hC.2.2.2.2.2.1 (hC.2.2.2.2.2.2.1 _ hw) hd (kk p lch e R s m args below meth c H locs cells slots ad D cI cZ A H0 Qm ls hC hW hl hR)

theorem E_iload_n {Y : MY} {d pc : Nat} {l st : List Value} {hp : HP} {Q : Option Value → HP → Prop} {k : Fin 4} {x : Int32} (hd : decode Y.2.1 pc = .ok (.iload_n k, 1)) (hv : l[(k : Nat)]? = some (.int x)) (kk : E Y d (pc + 1) l (.int x :: st) hp Q) : E Y d pc l st hp Q := by
  intro p lch e R s m args below meth c H locs cells slots ad D cI cZ A H0 Qm ls hC hW hl hR
  exact lv_iload_n hC.1 hC.2.1 hd rfl (lvr_at hl hv (by intro h; cases h)) (kk p lch e R s m args below meth c H locs cells slots ad D cI cZ A H0 Qm ls hC hW hl hR)

theorem E_iload {Y : MY} {d pc : Nat} {l st : List Value} {hp : HP} {Q : Option Value → HP → Prop} {i : Nat} {x : Int32} (hd : decode Y.2.1 pc = .ok (.iload i, 2)) (hv : l[i]? = some (.int x)) (kk : E Y d (pc + 2) l (.int x :: st) hp Q) : E Y d pc l st hp Q := by
  intro p lch e R s m args below meth c H locs cells slots ad D cI cZ A H0 Qm ls hC hW hl hR
  exact lv_iload hC.1 hC.2.1 hd (lvr_at hl hv (by intro h; cases h)) (kk p lch e R s m args below meth c H locs cells slots ad D cI cZ A H0 Qm ls hC hW hl hR)

theorem E_lload_n {Y : MY} {d pc : Nat} {l st : List Value} {hp : HP} {Q : Option Value → HP → Prop} {k : Fin 4} {x : Int64} (hd : decode Y.2.1 pc = .ok (.lload_n k, 1)) (hv : l[(k : Nat)]? = some (.long x)) (kk : E Y d (pc + 1) l (.long x :: st) hp Q) : E Y d pc l st hp Q := by
  intro p lch e R s m args below meth c H locs cells slots ad D cI cZ A H0 Qm ls hC hW hl hR
  exact lv_lload_n hC.1 hC.2.1 hd rfl (lvr_at hl hv (by intro h; cases h)) (kk p lch e R s m args below meth c H locs cells slots ad D cI cZ A H0 Qm ls hC hW hl hR)

theorem E_lload {Y : MY} {d pc : Nat} {l st : List Value} {hp : HP} {Q : Option Value → HP → Prop} {i : Nat} {x : Int64} (hd : decode Y.2.1 pc = .ok (.lload i, 2)) (hv : l[i]? = some (.long x)) (kk : E Y d (pc + 2) l (.long x :: st) hp Q) : E Y d pc l st hp Q := by
  intro p lch e R s m args below meth c H locs cells slots ad D cI cZ A H0 Qm ls hC hW hl hR
  exact lv_lload hC.1 hC.2.1 hd (lvr_at hl hv (by intro h; cases h)) (kk p lch e R s m args below meth c H locs cells slots ad D cI cZ A H0 Qm ls hC hW hl hR)

theorem E_aload_n {Y : MY} {d pc : Nat} {l st : List Value} {hp : HP} {Q : Option Value → HP → Prop} {k : Fin 4} {x : Nat} (hd : decode Y.2.1 pc = .ok (.aload_n k, 1)) (hv : l[(k : Nat)]? = some (.ref x)) (kk : E Y d (pc + 1) l (.ref x :: st) hp Q) : E Y d pc l st hp Q := by
  intro p lch e R s m args below meth c H locs cells slots ad D cI cZ A H0 Qm ls hC hW hl hR
  exact lv_aload_n hC.1 hC.2.1 hd rfl (lvr_at hl hv (by intro h; cases h)) (kk p lch e R s m args below meth c H locs cells slots ad D cI cZ A H0 Qm ls hC hW hl hR)

theorem E_aload {Y : MY} {d pc : Nat} {l st : List Value} {hp : HP} {Q : Option Value → HP → Prop} {i : Nat} {x : Nat} (hd : decode Y.2.1 pc = .ok (.aload i, 2)) (hv : l[i]? = some (.ref x)) (kk : E Y d (pc + 2) l (.ref x :: st) hp Q) : E Y d pc l st hp Q := by
  intro p lch e R s m args below meth c H locs cells slots ad D cI cZ A H0 Qm ls hC hW hl hR
  exact lv_aload hC.1 hC.2.1 hd (lvr_at hl hv (by intro h; cases h)) (kk p lch e R s m args below meth c H locs cells slots ad D cI cZ A H0 Qm ls hC hW hl hR)

theorem E_istore_n {Y : MY} {d pc : Nat} {l st : List Value} {hp : HP} {Q : Option Value → HP → Prop} {k : Fin 4} {i : Nat} {x : Int32} {l2 : List Value} (hd : decode Y.2.1 pc = .ok (.istore_n k, 1)) (hi : (k : Nat) = i) (hn : i < Y.2.2.1) (hl2 : stI l i (.int x) = l2) (kk : E Y d (pc + 1) l2 st hp Q) : E Y d pc l (.int x :: st) hp Q := by
  intro p lch e R s m args below meth c H locs cells slots ad D cI cZ A H0 Qm ls hC hW hl hR
  exact lv_istore_n hC.1 hC.2.1 hd hi hl hn rfl (fun ls2 h2 => kk p lch e R s m args below meth c H locs cells slots ad D cI cZ A H0 Qm ls2 hC hW (hl2 ▸ lvr_st1 (x := .int x) h2) hR)

theorem E_istore {Y : MY} {d pc : Nat} {l st : List Value} {hp : HP} {Q : Option Value → HP → Prop} {i : Nat} {x : Int32} {l2 : List Value} (hd : decode Y.2.1 pc = .ok (.istore i, 2)) (hn : i < Y.2.2.1) (hl2 : stI l i (.int x) = l2) (kk : E Y d (pc + 2) l2 st hp Q) : E Y d pc l (.int x :: st) hp Q := by
  intro p lch e R s m args below meth c H locs cells slots ad D cI cZ A H0 Qm ls hC hW hl hR
  exact lv_istore hC.1 hC.2.1 hd hl hn rfl (fun ls2 h2 => kk p lch e R s m args below meth c H locs cells slots ad D cI cZ A H0 Qm ls2 hC hW (hl2 ▸ lvr_st1 (x := .int x) h2) hR)

theorem E_lstore_n {Y : MY} {d pc : Nat} {l st : List Value} {hp : HP} {Q : Option Value → HP → Prop} {k : Fin 4} {i : Nat} {x : Int64} {l2 : List Value} (hd : decode Y.2.1 pc = .ok (.lstore_n k, 1)) (hi : (k : Nat) = i) (hn : i + 1 < Y.2.2.1) (hl2 : stL l i (.long x) = l2) (kk : E Y d (pc + 1) l2 st hp Q) : E Y d pc l (.long x :: st) hp Q := by
  intro p lch e R s m args below meth c H locs cells slots ad D cI cZ A H0 Qm ls hC hW hl hR
  exact lv_lstore_n hC.1 hC.2.1 hd hi hl hn rfl (fun ls2 h2 => kk p lch e R s m args below meth c H locs cells slots ad D cI cZ A H0 Qm ls2 hC hW (hl2 ▸ lvr_st2 (x := .long x) h2) hR)

theorem E_lstore {Y : MY} {d pc : Nat} {l st : List Value} {hp : HP} {Q : Option Value → HP → Prop} {i : Nat} {x : Int64} {l2 : List Value} (hd : decode Y.2.1 pc = .ok (.lstore i, 2)) (hn : i + 1 < Y.2.2.1) (hl2 : stL l i (.long x) = l2) (kk : E Y d (pc + 2) l2 st hp Q) : E Y d pc l (.long x :: st) hp Q := by
  intro p lch e R s m args below meth c H locs cells slots ad D cI cZ A H0 Qm ls hC hW hl hR
  exact lv_lstore hC.1 hC.2.1 hd hl hn rfl (fun ls2 h2 => kk p lch e R s m args below meth c H locs cells slots ad D cI cZ A H0 Qm ls2 hC hW (hl2 ▸ lvr_st2 (x := .long x) h2) hR)

theorem E_astore_n {Y : MY} {d pc : Nat} {l st : List Value} {hp : HP} {Q : Option Value → HP → Prop} {k : Fin 4} {i : Nat} {x : Nat} {l2 : List Value} (hd : decode Y.2.1 pc = .ok (.astore_n k, 1)) (hi : (k : Nat) = i) (hn : i < Y.2.2.1) (hl2 : stI l i (.ref x) = l2) (kk : E Y d (pc + 1) l2 st hp Q) : E Y d pc l (.ref x :: st) hp Q := by
  intro p lch e R s m args below meth c H locs cells slots ad D cI cZ A H0 Qm ls hC hW hl hR
  exact lv_astore_n hC.1 hC.2.1 hd hi hl hn rfl (fun ls2 h2 => kk p lch e R s m args below meth c H locs cells slots ad D cI cZ A H0 Qm ls2 hC hW (hl2 ▸ lvr_st1 (x := .ref x) h2) hR)

theorem E_astore {Y : MY} {d pc : Nat} {l st : List Value} {hp : HP} {Q : Option Value → HP → Prop} {i : Nat} {x : Nat} {l2 : List Value} (hd : decode Y.2.1 pc = .ok (.astore i, 2)) (hn : i < Y.2.2.1) (hl2 : stI l i (.ref x) = l2) (kk : E Y d (pc + 2) l2 st hp Q) : E Y d pc l (.ref x :: st) hp Q := by
  intro p lch e R s m args below meth c H locs cells slots ad D cI cZ A H0 Qm ls hC hW hl hR
  exact lv_astore hC.1 hC.2.1 hd hl hn rfl (fun ls2 h2 => kk p lch e R s m args below meth c H locs cells slots ad D cI cZ A H0 Qm ls2 hC hW (hl2 ▸ lvr_st1 (x := .ref x) h2) hR)

theorem alf_at {ad : Nat → Nat} {q : Nat × Value} {l : List (Nat × Value)} (h : q ∈ l) : ∃ k : Nat, l[k]? = some q := List.getElem?_of_mem h
theorem E_iinc {Y : MY} {d pc : Nat} {l st : List Value} {hp : HP} {Q : Option Value → HP → Prop} {i : Nat} {n : Int} {x y : Int32} {l2 : List Value} (hd : decode Y.2.1 pc = .ok (.iinc i n, 3)) (hv : l[i]? = some (.int x)) (hy : x + Int32.ofInt n = y) (hn : i < Y.2.2.1) (hl2 : stI l i (.int y) = l2) (kk : E Y d (pc + 3) l2 st hp Q) : E Y d pc l st hp Q := by
  intro p lch e R s m args below meth c H locs cells slots ad D cI cZ A H0 Qm ls hC hW hl hR
  have h0 := alf_get (ad := ad) l 0 i _ hv (by intro h; cases h)
  rw [Nat.zero_add] at h0
  obtain ⟨k, hk⟩ := List.getElem?_of_mem h0
  exact lv_iinc hC.1 hC.2.1 hd hl hk hy hn rfl (fun ls2 h2 => kk p lch e R s m args below meth c H locs cells slots ad D cI cZ A H0 Qm ls2 hC hW (hl2 ▸ lvr_st1 (x := .int y) h2) hR)

theorem E_if_eq {Y : MY} {d pc : Nat} {l st : List Value} {hp : HP} {Q : Option Value → HP → Prop} {x : Int32} {off : Int} {tgt : Nat} (hd : decode Y.2.1 pc = .ok (.ifCond .eq off, 3)) (ht : (pc : Int) + off = (tgt : Int)) (kt : x = 0 → E Y d tgt l st hp Q) (kf : ¬ x = 0 → E Y d (pc + 3) l st hp Q) : E Y d pc l (.int x :: st) hp Q := by
  intro p lch e R s m args below meth c H locs cells slots ad D cI cZ A H0 Qm ls hC hW hl hR
  exact lv_if_eq hC.1 hC.2.1 hd ht (fun c9 => kt c9 p lch e R s m args below meth c H locs cells slots ad D cI cZ A H0 Qm ls hC hW hl hR) (fun c9 => kf c9 p lch e R s m args below meth c H locs cells slots ad D cI cZ A H0 Qm ls hC hW hl hR)

theorem E_icmp_eq {Y : MY} {d pc : Nat} {l st : List Value} {hp : HP} {Q : Option Value → HP → Prop} {x y : Int32} {off : Int} {tgt : Nat} (hd : decode Y.2.1 pc = .ok (.if_icmp .eq off, 3)) (ht : (pc : Int) + off = (tgt : Int)) (kt : x = y → E Y d tgt l st hp Q) (kf : ¬ x = y → E Y d (pc + 3) l st hp Q) : E Y d pc l (.int y :: .int x :: st) hp Q := by
  intro p lch e R s m args below meth c H locs cells slots ad D cI cZ A H0 Qm ls hC hW hl hR
  exact lv_icmp_eq hC.1 hC.2.1 hd ht (fun c9 => kt c9 p lch e R s m args below meth c H locs cells slots ad D cI cZ A H0 Qm ls hC hW hl hR) (fun c9 => kf c9 p lch e R s m args below meth c H locs cells slots ad D cI cZ A H0 Qm ls hC hW hl hR)

theorem E_if_ne {Y : MY} {d pc : Nat} {l st : List Value} {hp : HP} {Q : Option Value → HP → Prop} {x : Int32} {off : Int} {tgt : Nat} (hd : decode Y.2.1 pc = .ok (.ifCond .ne off, 3)) (ht : (pc : Int) + off = (tgt : Int)) (kt : ¬ x = 0 → E Y d tgt l st hp Q) (kf : x = 0 → E Y d (pc + 3) l st hp Q) : E Y d pc l (.int x :: st) hp Q := by
  intro p lch e R s m args below meth c H locs cells slots ad D cI cZ A H0 Qm ls hC hW hl hR
  exact lv_if_ne hC.1 hC.2.1 hd ht (fun c9 => kt c9 p lch e R s m args below meth c H locs cells slots ad D cI cZ A H0 Qm ls hC hW hl hR) (fun c9 => kf c9 p lch e R s m args below meth c H locs cells slots ad D cI cZ A H0 Qm ls hC hW hl hR)

theorem E_icmp_ne {Y : MY} {d pc : Nat} {l st : List Value} {hp : HP} {Q : Option Value → HP → Prop} {x y : Int32} {off : Int} {tgt : Nat} (hd : decode Y.2.1 pc = .ok (.if_icmp .ne off, 3)) (ht : (pc : Int) + off = (tgt : Int)) (kt : ¬ x = y → E Y d tgt l st hp Q) (kf : x = y → E Y d (pc + 3) l st hp Q) : E Y d pc l (.int y :: .int x :: st) hp Q := by
  intro p lch e R s m args below meth c H locs cells slots ad D cI cZ A H0 Qm ls hC hW hl hR
  exact lv_icmp_ne hC.1 hC.2.1 hd ht (fun c9 => kt c9 p lch e R s m args below meth c H locs cells slots ad D cI cZ A H0 Qm ls hC hW hl hR) (fun c9 => kf c9 p lch e R s m args below meth c H locs cells slots ad D cI cZ A H0 Qm ls hC hW hl hR)

theorem E_if_lt {Y : MY} {d pc : Nat} {l st : List Value} {hp : HP} {Q : Option Value → HP → Prop} {x : Int32} {off : Int} {tgt : Nat} (hd : decode Y.2.1 pc = .ok (.ifCond .lt off, 3)) (ht : (pc : Int) + off = (tgt : Int)) (kt : x < 0 → E Y d tgt l st hp Q) (kf : ¬ x < 0 → E Y d (pc + 3) l st hp Q) : E Y d pc l (.int x :: st) hp Q := by
  intro p lch e R s m args below meth c H locs cells slots ad D cI cZ A H0 Qm ls hC hW hl hR
  exact lv_if_lt hC.1 hC.2.1 hd ht (fun c9 => kt c9 p lch e R s m args below meth c H locs cells slots ad D cI cZ A H0 Qm ls hC hW hl hR) (fun c9 => kf c9 p lch e R s m args below meth c H locs cells slots ad D cI cZ A H0 Qm ls hC hW hl hR)

theorem E_icmp_lt {Y : MY} {d pc : Nat} {l st : List Value} {hp : HP} {Q : Option Value → HP → Prop} {x y : Int32} {off : Int} {tgt : Nat} (hd : decode Y.2.1 pc = .ok (.if_icmp .lt off, 3)) (ht : (pc : Int) + off = (tgt : Int)) (kt : x < y → E Y d tgt l st hp Q) (kf : ¬ x < y → E Y d (pc + 3) l st hp Q) : E Y d pc l (.int y :: .int x :: st) hp Q := by
  intro p lch e R s m args below meth c H locs cells slots ad D cI cZ A H0 Qm ls hC hW hl hR
  exact lv_icmp_lt hC.1 hC.2.1 hd ht (fun c9 => kt c9 p lch e R s m args below meth c H locs cells slots ad D cI cZ A H0 Qm ls hC hW hl hR) (fun c9 => kf c9 p lch e R s m args below meth c H locs cells slots ad D cI cZ A H0 Qm ls hC hW hl hR)

theorem E_if_ge {Y : MY} {d pc : Nat} {l st : List Value} {hp : HP} {Q : Option Value → HP → Prop} {x : Int32} {off : Int} {tgt : Nat} (hd : decode Y.2.1 pc = .ok (.ifCond .ge off, 3)) (ht : (pc : Int) + off = (tgt : Int)) (kt : 0 ≤ x → E Y d tgt l st hp Q) (kf : ¬ 0 ≤ x → E Y d (pc + 3) l st hp Q) : E Y d pc l (.int x :: st) hp Q := by
  intro p lch e R s m args below meth c H locs cells slots ad D cI cZ A H0 Qm ls hC hW hl hR
  exact lv_if_ge hC.1 hC.2.1 hd ht (fun c9 => kt c9 p lch e R s m args below meth c H locs cells slots ad D cI cZ A H0 Qm ls hC hW hl hR) (fun c9 => kf c9 p lch e R s m args below meth c H locs cells slots ad D cI cZ A H0 Qm ls hC hW hl hR)

theorem E_icmp_ge {Y : MY} {d pc : Nat} {l st : List Value} {hp : HP} {Q : Option Value → HP → Prop} {x y : Int32} {off : Int} {tgt : Nat} (hd : decode Y.2.1 pc = .ok (.if_icmp .ge off, 3)) (ht : (pc : Int) + off = (tgt : Int)) (kt : y ≤ x → E Y d tgt l st hp Q) (kf : ¬ y ≤ x → E Y d (pc + 3) l st hp Q) : E Y d pc l (.int y :: .int x :: st) hp Q := by
  intro p lch e R s m args below meth c H locs cells slots ad D cI cZ A H0 Qm ls hC hW hl hR
  exact lv_icmp_ge hC.1 hC.2.1 hd ht (fun c9 => kt c9 p lch e R s m args below meth c H locs cells slots ad D cI cZ A H0 Qm ls hC hW hl hR) (fun c9 => kf c9 p lch e R s m args below meth c H locs cells slots ad D cI cZ A H0 Qm ls hC hW hl hR)

theorem E_if_gt {Y : MY} {d pc : Nat} {l st : List Value} {hp : HP} {Q : Option Value → HP → Prop} {x : Int32} {off : Int} {tgt : Nat} (hd : decode Y.2.1 pc = .ok (.ifCond .gt off, 3)) (ht : (pc : Int) + off = (tgt : Int)) (kt : 0 < x → E Y d tgt l st hp Q) (kf : ¬ 0 < x → E Y d (pc + 3) l st hp Q) : E Y d pc l (.int x :: st) hp Q := by
  intro p lch e R s m args below meth c H locs cells slots ad D cI cZ A H0 Qm ls hC hW hl hR
  exact lv_if_gt hC.1 hC.2.1 hd ht (fun c9 => kt c9 p lch e R s m args below meth c H locs cells slots ad D cI cZ A H0 Qm ls hC hW hl hR) (fun c9 => kf c9 p lch e R s m args below meth c H locs cells slots ad D cI cZ A H0 Qm ls hC hW hl hR)

theorem E_icmp_gt {Y : MY} {d pc : Nat} {l st : List Value} {hp : HP} {Q : Option Value → HP → Prop} {x y : Int32} {off : Int} {tgt : Nat} (hd : decode Y.2.1 pc = .ok (.if_icmp .gt off, 3)) (ht : (pc : Int) + off = (tgt : Int)) (kt : y < x → E Y d tgt l st hp Q) (kf : ¬ y < x → E Y d (pc + 3) l st hp Q) : E Y d pc l (.int y :: .int x :: st) hp Q := by
  intro p lch e R s m args below meth c H locs cells slots ad D cI cZ A H0 Qm ls hC hW hl hR
  exact lv_icmp_gt hC.1 hC.2.1 hd ht (fun c9 => kt c9 p lch e R s m args below meth c H locs cells slots ad D cI cZ A H0 Qm ls hC hW hl hR) (fun c9 => kf c9 p lch e R s m args below meth c H locs cells slots ad D cI cZ A H0 Qm ls hC hW hl hR)

theorem E_if_le {Y : MY} {d pc : Nat} {l st : List Value} {hp : HP} {Q : Option Value → HP → Prop} {x : Int32} {off : Int} {tgt : Nat} (hd : decode Y.2.1 pc = .ok (.ifCond .le off, 3)) (ht : (pc : Int) + off = (tgt : Int)) (kt : x ≤ 0 → E Y d tgt l st hp Q) (kf : ¬ x ≤ 0 → E Y d (pc + 3) l st hp Q) : E Y d pc l (.int x :: st) hp Q := by
  intro p lch e R s m args below meth c H locs cells slots ad D cI cZ A H0 Qm ls hC hW hl hR
  exact lv_if_le hC.1 hC.2.1 hd ht (fun c9 => kt c9 p lch e R s m args below meth c H locs cells slots ad D cI cZ A H0 Qm ls hC hW hl hR) (fun c9 => kf c9 p lch e R s m args below meth c H locs cells slots ad D cI cZ A H0 Qm ls hC hW hl hR)

theorem E_icmp_le {Y : MY} {d pc : Nat} {l st : List Value} {hp : HP} {Q : Option Value → HP → Prop} {x y : Int32} {off : Int} {tgt : Nat} (hd : decode Y.2.1 pc = .ok (.if_icmp .le off, 3)) (ht : (pc : Int) + off = (tgt : Int)) (kt : x ≤ y → E Y d tgt l st hp Q) (kf : ¬ x ≤ y → E Y d (pc + 3) l st hp Q) : E Y d pc l (.int y :: .int x :: st) hp Q := by
  intro p lch e R s m args below meth c H locs cells slots ad D cI cZ A H0 Qm ls hC hW hl hR
  exact lv_icmp_le hC.1 hC.2.1 hd ht (fun c9 => kt c9 p lch e R s m args below meth c H locs cells slots ad D cI cZ A H0 Qm ls hC hW hl hR) (fun c9 => kf c9 p lch e R s m args below meth c H locs cells slots ad D cI cZ A H0 Qm ls hC hW hl hR)

theorem E_goto {Y : MY} {d pc : Nat} {l st : List Value} {hp : HP} {Q : Option Value → HP → Prop} {off : Int} {tgt : Nat} (hd : decode Y.2.1 pc = .ok (.goto off, 3)) (ht : (pc : Int) + off = (tgt : Int)) (kk : E Y d tgt l st hp Q) : E Y d pc l st hp Q := by
  intro p lch e R s m args below meth c H locs cells slots ad D cI cZ A H0 Qm ls hC hW hl hR
  exact lv_goto hC.1 hC.2.1 hd ht (kk p lch e R s m args below meth c H locs cells slots ad D cI cZ A H0 Qm ls hC hW hl hR)

theorem E_lookup {Y : MY} {d pc : Nat} {l st : List Value} {hp : HP} {Q : Option Value → HP → Prop} {dflt : Int} {ps : Array (Int × Int)} {len : Nat} {x : Int32} {off : Int} {tgt : Nat} (hd : decode Y.2.1 pc = .ok (.lookupswitch dflt ps, len)) (hps : (ps.toList.zip (ps.toList.drop 1)).all (fun (a, next) => a.1 < next.1) = true) (ho : Op.lookupswitch.offset ps.toList dflt x.toInt = off) (ht : (pc : Int) + off = (tgt : Int)) (kk : E Y d tgt l st hp Q) : E Y d pc l (.int x :: st) hp Q := by
  intro p lch e R s m args below meth c H locs cells slots ad D cI cZ A H0 Qm ls hC hW hl hR
  exact lv_lookup hC.1 hC.2.1 hd hps ho ht (kk p lch e R s m args below meth c H locs cells slots ad D cI cZ A H0 Qm ls hC hW hl hR)

theorem E_tableOut {Y : MY} {d pc : Nat} {l st : List Value} {hp : HP} {Q : Option Value → HP → Prop} {dflt lo hi : Int} {offs : Array Int} {len : Nat} {x : Int32} {tgt : Nat} (hd : decode Y.2.1 pc = .ok (.tableswitch dflt lo hi offs, len)) (h : x.toInt < lo ∨ hi < x.toInt) (ht : (pc : Int) + dflt = (tgt : Int)) (kk : E Y d tgt l st hp Q) : E Y d pc l (.int x :: st) hp Q := by
  intro p lch e R s m args below meth c H locs cells slots ad D cI cZ A H0 Qm ls hC hW hl hR
  exact lv_tableOut hC.1 hC.2.1 hd h ht (kk p lch e R s m args below meth c H locs cells slots ad D cI cZ A H0 Qm ls hC hW hl hR)

theorem E_tableIn {Y : MY} {d pc : Nat} {l st : List Value} {hp : HP} {Q : Option Value → HP → Prop} {dflt lo hi : Int} {offs : Array Int} {len : Nat} {x : Int32} {off : Int} {tgt : Nat} (hd : decode Y.2.1 pc = .ok (.tableswitch dflt lo hi offs, len)) (h1 : ¬ x.toInt < lo) (h2 : ¬ hi < x.toInt) (ho : offs[(x.toInt - lo).toNat]? = some off) (ht : (pc : Int) + off = (tgt : Int)) (kk : E Y d tgt l st hp Q) : E Y d pc l (.int x :: st) hp Q := by
  intro p lch e R s m args below meth c H locs cells slots ad D cI cZ A H0 Qm ls hC hW hl hR
  exact lv_tableIn hC.1 hC.2.1 hd h1 h2 ho ht (kk p lch e R s m args below meth c H locs cells slots ad D cI cZ A H0 Qm ls hC hW hl hR)

/-- what the tables say of class number ci; of a field's link -/
def CLS (ci : Nat) (C : String) (T : u_T) (N : Nat) (ty : Nat → FieldType) : Prop := vwCl[ci]? = some (C, T, N) ∧ (∀ w ∈ u_ws C T N, w ∈ gtbl) ∧ (∀ k, k < N → parseFieldDescriptor (T k).2.2.1 = some (ty k)) ∧ (∀ a, a < N → ∀ b, b < N → a ≠ b → (T a).2.1 ≠ (T b).2.1)
def FLK (own : String) (index ci k : Nat) (ty0 : FieldType) : Prop := ∃ (C : String) (T : u_T) (N : Nat) (ty : Nat → FieldType), CLS ci C T N ty ∧ k < N ∧ Cond.fieldLink own index C (T k).2.1 (T k).2.2.1 ∈ gtbl ∧ (T k).1 = C ∧ ty k = ty0
def FLP (ci k : Nat) : Prop := ∀ r : vw_C, vwCl[ci]? = some r → (r.2.1 k).2.2.2 = false

theorem E_get {Y : MY} {d pc : Nat} {l st : List Value} {hp : HP} {Q : Option Value → HP → Prop} {index ci k a : Nat} {ty : FieldType} {fs : List Value} {v : Value} (hd : decode Y.2.1 pc = .ok (.getfield index, 3)) (hF : FLK Y.1 index ci k ty) (ha : LV a) (hk : hp a = .inr (ci, fs)) (hv : fs[k]? = some v) (kk : E Y d (pc + 3) l (v :: st) hp Q) : E Y d pc l (.ref a :: st) hp Q := by
  intro p lch e R s m args below meth c H locs cells slots ad D cI cZ A H0 Qm ls hC hW hl hR
  obtain ⟨C, T, N, ty, ⟨hc, hin, -, -⟩, hkN, hlink, hTC, -⟩ := hF
  refine va_get hC.1 hC.2.1 hC.2.2.2.2.2.2.1 hin hC.2.2.2.2.2.1 hW.1 hW.2.1 (wpos a) (fs := fs.map (cv ad)) (by rw [mkW_get ha, hk]; rfl) hc k hkN (hC.2.2.2.2.2.2.1 _ hlink) (fun x h => by rw [hTC] at h; exact h) (v := cv ad v) (by rw [List.getElem?_map, hv]; rfl) hd (kk p lch e R s m args below meth c H locs cells slots ad D cI cZ A H0 Qm ls hC hW hl hR)

theorem E_put {Y : MY} {d pc : Nat} {l st : List Value} {hp : HP} {Q : Option Value → HP → Prop} {index ci k a : Nat} {ty : FieldType} {fs fs2 : List Value} {v : Value} (hd : decode Y.2.1 pc = .ok (.putfield index, 3)) (hF : FLK Y.1 index ci k ty) (hf : FLP ci k) (ha : LV a) (hk : hp a = .inr (ci, fs)) (hn : ∀ ad : Nat → Nat, narrow ty (cv ad v) = cv ad v ∧ fits ty (cv ad v) = true) (hkl : k < fs.length) (hfs : fs.set k v = fs2) (kk : E Y d (pc + 3) l st (hup hp a (.inr (ci, fs2))) Q) : E Y d pc l (v :: .ref a :: st) hp Q := by
  intro p lch e R s m args below meth c H locs cells slots ad D cI cZ A H0 Qm ls hC hW hl hR
  obtain ⟨C, T, N, ty1, ⟨hc, hin, hty, hnm⟩, hkN, hlink, hTC, hty2⟩ := hF
  subst hfs
  refine va_put hC.1 hC.2.1 hC.2.2.2.2.2.2.1 hin ty1 hty hnm hC.2.2.2.2.2.1 hW.1 hW.2.1 hW.2.2.1 hW.2.2.2.1 (wpos a) (fs := fs.map (cv ad)) (by rw [mkW_get ha, hk]; rfl) hc k hkN (hC.2.2.2.2.2.2.1 _ hlink) (fun x h => by rw [hTC] at h; exact h) (hf _ hc) (ty := ty) (v := cv ad v) (by rw [hty k hkN, hty2]) (hn ad).1 (hn ad).2 (by rw [List.length_map]; exact hkl) hd (fun H1 locs1 hP1 hD1 hS1 => ?_)
  have e9 : (mkW ad cI cZ hp).set (wpos a) (ad a, .inr (ci, (fs.map (cv ad)).set k (cv ad v))) = mkW ad cI cZ (hup hp a (.inr (ci, fs.set k v))) := by
    rw [← mkW_set ha]
    simp [cE, List.map_set]
  rw [e9] at hP1 hD1
  exact kk p lch e R s m args below meth c H1 locs1 cells slots ad D cI cZ A H0 Qm ls hC ⟨hW.1, hP1, hD1, hS1, hW.2.2.2.2⟩ hl hR

theorem E_iald {Y : MY} {d pc : Nat} {l st : List Value} {hp : HP} {Q : Option Value → HP → Prop} {a n : Nat} {f : Nat → Int32} {i : Int32} (hd : decode Y.2.1 pc = .ok (.iaload, 1)) (ha : LV a) (hk : hp a = .inl (false, n, f)) (hin : vp_in i n) (kk : E Y d (pc + 1) l (.int (f i.toNatClampNeg) :: st) hp Q) : E Y d pc l (.int i :: .ref a :: st) hp Q := by
  intro p lch e R s m args below meth c H locs cells slots ad D cI cZ A H0 Qm ls hC hW hl hR
  exact va_iald hC.1 hC.2.1 hW.1 hW.2.1 (wpos a) 0 (by rw [mkW_get ha, hk]; rfl) rfl hin hd (kk p lch e R s m args below meth c H locs cells slots ad D cI cZ A H0 Qm ls hC hW hl hR)

theorem E_zald {Y : MY} {d pc : Nat} {l st : List Value} {hp : HP} {Q : Option Value → HP → Prop} {a n : Nat} {f : Nat → Int32} {i : Int32} (hd : decode Y.2.1 pc = .ok (.baload, 1)) (ha : LV a) (hk : hp a = .inl (true, n, f)) (hin : vp_in i n) (kk : E Y d (pc + 1) l (.int (f i.toNatClampNeg) :: st) hp Q) : E Y d pc l (.int i :: .ref a :: st) hp Q := by
  intro p lch e R s m args below meth c H locs cells slots ad D cI cZ A H0 Qm ls hC hW hl hR
  exact va_zald hC.1 hC.2.1 hW.1 hW.2.1 (wpos a) 1 (by rw [mkW_get ha, hk]; rfl) rfl hin hd (kk p lch e R s m args below meth c H locs cells slots ad D cI cZ A H0 Qm ls hC hW hl hR)

theorem E_iast {Y : MY} {d pc : Nat} {l st : List Value} {hp : HP} {Q : Option Value → HP → Prop} {a n : Nat} {f f2 : Nat → Int32} {i x : Int32} (hd : decode Y.2.1 pc = .ok (.iastore, 1)) (ha : LV a) (hk : hp a = .inl (false, n, f)) (hin : vp_in i n) (hf : upd f i.toNatClampNeg x = f2) (kk : E Y d (pc + 1) l st (hup hp a (.inl (false, n, f2))) Q) : E Y d pc l (.int x :: .int i :: .ref a :: st) hp Q := by
  intro p lch e R s m args below meth c H locs cells slots ad D cI cZ A H0 Qm ls hC hW hl hR
  subst hf
  refine va_iast hC.1 hC.2.1 hW.1 hW.2.1 hW.2.2.1 hW.2.2.2.1 (wpos a) 0 (cA := if false then cZ else cI) (n := n) (f := f) (by rw [mkW_get ha, hk]; rfl) rfl hin hd (fun H1 locs1 hP1 hD1 hS1 => ?_)
  have e9 : (mkW ad cI cZ hp).set (wpos a) (ad a, .inl (if false then cZ else cI, n, .inl (upd f i.toNatClampNeg x))) = mkW ad cI cZ (hup hp a (.inl (false, n, upd f i.toNatClampNeg x))) := by
    rw [← mkW_set ha]
    rfl
  rw [e9] at hP1 hD1
  exact kk p lch e R s m args below meth c H1 locs1 cells slots ad D cI cZ A H0 Qm ls hC ⟨hW.1, hP1, hD1, hS1, hW.2.2.2.2⟩ hl hR

theorem E_zast {Y : MY} {d pc : Nat} {l st : List Value} {hp : HP} {Q : Option Value → HP → Prop} {a n : Nat} {f f2 : Nat → Int32} {i x : Int32} (hd : decode Y.2.1 pc = .ok (.bastore, 1)) (ha : LV a) (hk : hp a = .inl (true, n, f)) (hin : vp_in i n) (hf : upd f i.toNatClampNeg (vp_nar .boolean x) = f2) (kk : E Y d (pc + 1) l st (hup hp a (.inl (true, n, f2))) Q) : E Y d pc l (.int x :: .int i :: .ref a :: st) hp Q := by
  intro p lch e R s m args below meth c H locs cells slots ad D cI cZ A H0 Qm ls hC hW hl hR
  subst hf
  refine va_zast hC.1 hC.2.1 hW.1 hW.2.1 hW.2.2.1 hW.2.2.2.1 (wpos a) 1 (cA := if true then cZ else cI) (n := n) (f := f) (by rw [mkW_get ha, hk]; rfl) rfl hin hd (fun H1 locs1 hP1 hD1 hS1 => ?_)
  have e9 : (mkW ad cI cZ hp).set (wpos a) (ad a, .inl (if true then cZ else cI, n, .inl (upd f i.toNatClampNeg (vp_nar .boolean x)))) = mkW ad cI cZ (hup hp a (.inl (true, n, upd f i.toNatClampNeg (vp_nar .boolean x)))) := by
    rw [← mkW_set ha]
    rfl
  rw [e9] at hP1 hD1
  exact kk p lch e R s m args below meth c H1 locs1 cells slots ad D cI cZ A H0 Qm ls hC ⟨hW.1, hP1, hD1, hS1, hW.2.2.2.2⟩ hl hR

theorem E_alen {Y : MY} {d pc : Nat} {l st : List Value} {hp : HP} {Q : Option Value → HP → Prop} {a n : Nat} {b : Bool} {f : Nat → Int32} {v : Int32} (hd : decode Y.2.1 pc = .ok (.arraylength, 1)) (ha : LV a) (hk : hp a = .inl (b, n, f)) (hv : Int32.ofNat n = v) (kk : E Y d (pc + 1) l (.int v :: st) hp Q) : E Y d pc l (.ref a :: st) hp Q := by
  intro p lch e R s m args below meth c H locs cells slots ad D cI cZ A H0 Qm ls hC hW hl hR
  cases b
  · exact va_alen hC.1 hC.2.1 hW.1 hW.2.1 (wpos a) 0 (x := (n, .inl f)) (by rw [mkW_get ha, hk]; rfl) rfl hv hd (kk p lch e R s m args below meth c H locs cells slots ad D cI cZ A H0 Qm ls hC hW hl hR)
  · exact va_alen hC.1 hC.2.1 hW.1 hW.2.1 (wpos a) 1 (x := (n, .inl f)) (by rw [mkW_get ha, hk]; rfl) rfl hv hd (kk p lch e R s m args below meth c H locs cells slots ad D cI cZ A H0 Qm ls hC hW hl hR)

theorem E_sld {Y : MY} {d pc : Nat} {l st : List Value} {hp : HP} {Q : Option Value → HP → Prop} {L : Nat} {xs : Nat → Int32} {i : Int32} (hd : decode Y.2.1 pc = .ok (.iaload, 1)) (hsc : Y.2.2.2.2 = some (L, xs)) (hin : vp_in i L) (kk : E Y d (pc + 1) l (.int (xs i.toNatClampNeg) :: st) hp Q) : E Y d pc l (.int i :: .ref 50 :: st) hp Q := by
  intro p lch e R s m args below meth c H locs cells slots ad D cI cZ A H0 Qm ls hC hW hl hR
  have h9 := hW.2.2.2.2.2
  rw [hsc] at h9
  exact va_sld hC.1 hC.2.1 h9.1 h9.2.1 h9.2.2 hW.2.2.2.1 hin hd (kk p lch e R s m args below meth c H locs cells slots ad D cI cZ A H0 Qm ls hC hW hl hR)

theorem E_slen {Y : MY} {d pc : Nat} {l st : List Value} {hp : HP} {Q : Option Value → HP → Prop} {L : Nat} {xs : Nat → Int32} {v : Int32} (hd : decode Y.2.1 pc = .ok (.arraylength, 1)) (hsc : Y.2.2.2.2 = some (L, xs)) (hv : Int32.ofNat L = v) (kk : E Y d (pc + 1) l (.int v :: st) hp Q) : E Y d pc l (.ref 50 :: st) hp Q := by
  intro p lch e R s m args below meth c H locs cells slots ad D cI cZ A H0 Qm ls hC hW hl hR
  have h9 := hW.2.2.2.2.2
  rw [hsc] at h9
  subst hv
  exact va_slen hC.1 hC.2.1 h9.1 h9.2.1 h9.2.2 hW.2.2.2.1 hd (kk p lch e R s m args below meth c H locs cells slots ad D cI cZ A H0 Qm ls hC hW hl hR)

theorem E_iret {Y : MY} {d pc : Nat} {l st : List Value} {hp : HP} {Q : Option Value → HP → Prop} {x : Int32} {ty : FieldType} (hd : decode Y.2.1 pc = .ok (.ireturn, 1)) (hr : Y.2.2.2.1 = some ty) (hn : narrow ty (.int x) = .int x) (hQ : Q (some (.int x)) hp) : E Y d pc l [.int x] hp Q := by
  intro p lch e R s m args below meth c H locs cells slots ad D cI cZ A H0 Qm ls hC hW hl hR
  exact hR (some (.int x)) hp H locs pc ls hQ hW (Or.inl ⟨x, ty, rfl, hd, hr, hn⟩)

theorem E_lret {Y : MY} {d pc : Nat} {l st : List Value} {hp : HP} {Q : Option Value → HP → Prop} {x : Int64} (hd : decode Y.2.1 pc = .ok (.lreturn, 1)) (hr : Y.2.2.2.1 = some .long) (hQ : Q (some (.long x)) hp) : E Y d pc l [.long x] hp Q := by
  intro p lch e R s m args below meth c H locs cells slots ad D cI cZ A H0 Qm ls hC hW hl hR
  exact hR (some (.long x)) hp H locs pc ls hQ hW (Or.inr (Or.inl ⟨x, rfl, hd, hr⟩))

theorem E_vret {Y : MY} {d pc : Nat} {l st : List Value} {hp : HP} {Q : Option Value → HP → Prop}  (hd : decode Y.2.1 pc = .ok (.return_, 1)) (hr : Y.2.2.2.1 = none) (hQ : Q none hp) : E Y d pc l [] hp Q := by
  intro p lch e R s m args below meth c H locs cells slots ad D cI cZ A H0 Qm ls hC hW hl hR
  exact hR none hp H locs pc ls hQ hW (Or.inr (Or.inr ⟨rfl, hd, hr⟩))

theorem E_mono {Y : MY} {d pc : Nat} {l st : List Value} {hp : HP} {Q : Option Value → HP → Prop} {Q2 : Option Value → HP → Prop} (h : E Y d pc l st hp Q2) (hq : ∀ v h', Q2 v h' → Q v h') : E Y d pc l st hp Q := by
  intro p lch e R s m args below meth c H locs cells slots ad D cI cZ A H0 Qm ls hC hW hl hR
  exact h p lch e R s m args below meth c H locs cells slots ad D cI cZ A H0 Qm ls hC hW hl (fun v hp' H' locs' pc' ls' h1 => hR v hp' H' locs' pc' ls' (hq v hp' h1))
