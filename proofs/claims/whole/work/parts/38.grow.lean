/-! growing worlds: the first n cells are made, in their order, behind the base -/
def mkN (ad : Nat → Nat) (cI cZ : ClassId) (hp : HP) (n : Nat) : va_W := (List.range n).map (fun i => (ad (wunp i), cE ad cI cZ (hp (wunp i))))
abbrev LVn (k n : Nat) : Prop := wpos k < n ∧ wunp (wpos k) = k
theorem mkN_at {ad : Nat → Nat} {cI cZ : ClassId} {hp : HP} {n i : Nat} (h : i < n) : (mkN ad cI cZ hp n)[i]? = some (ad (wunp i), cE ad cI cZ (hp (wunp i))) := by
  simp [mkN, List.getElem?_map, List.getElem?_range h]
theorem mkN_get {ad : Nat → Nat} {cI cZ : ClassId} {hp : HP} {n k : Nat} (h : LVn k n) : (mkN ad cI cZ hp n)[wpos k]? = some (ad k, cE ad cI cZ (hp k)) := by
  rw [mkN_at h.1, h.2]
theorem mkN_inv {ad : Nat → Nat} {cI cZ : ClassId} {hp : HP} {n i : Nat} {q : Nat × va_E} (h : (mkN ad cI cZ hp n)[i]? = some q) : i < n ∧ q = (ad (wunp i), cE ad cI cZ (hp (wunp i))) := by
  have hk : i < n := by
    have := (List.getElem?_eq_some_iff.mp h).1
    simpa [mkN] using this
  rw [mkN_at hk] at h
  exact ⟨hk, (Option.some.inj h).symm⟩
theorem mkN_set {ad : Nat → Nat} {cI cZ : ClassId} {hp : HP} {n k : Nat} {x : AC} (h : LVn k n) : (mkN ad cI cZ hp n).set (wpos k) (ad k, cE ad cI cZ x) = mkN ad cI cZ (hup hp k x) n := by
  apply List.ext_getElem?
  intro i
  by_cases hi : i = wpos k
  · subst hi
    have hl : wpos k < (mkN ad cI cZ hp n).length := by simpa [mkN] using h.1
    rw [List.getElem?_set_self hl, mkN_get h]
    simp [hup]
  · rw [List.getElem?_set_ne (Ne.symm hi)]
    by_cases hlt : i < n
    · rw [mkN_at hlt, mkN_at hlt]
      simp [hup, wunp_ne hi]
    · have h1 : (mkN ad cI cZ hp n)[i]? = none := by simp [mkN]; omega
      have h2 : (mkN ad cI cZ (hup hp k x) n)[i]? = none := by simp [mkN]; omega
      rw [h1, h2]
theorem mkN_push {ad : Nat → Nat} {cI cZ : ClassId} {hp : HP} {n : Nat} {x : AC} : mkN ad cI cZ hp n ++ [(ad (wunp n), cE ad cI cZ x)] = mkN ad cI cZ (hup hp (wunp n) x) (n + 1) := by
  unfold mkN
  rw [List.range_succ, List.map_append]
  congr 1
  · apply List.map_congr_left
    intro k hk
    have hk := List.mem_range.mp hk
    simp [hup, wunp_ne (show ¬ k = wpos (wunp n) by rw [wpos_unp]; omega)]
  · simp [hup]
def AdB (ad : Nat → Nat) (base : Nat) : Prop := ∀ i, i < 48 → ad (wunp i) = base + i
theorem mkN_D {ad : Nat → Nat} {base : Nat} {cI cZ : ClassId} {hp : HP} {n : Nat} {A : Nat → Prop} (hA : AdB ad base) (hn : n ≤ 48) (h : ∀ k, k < n → A (ad (wunp k))) : va_D A (mkN ad cI cZ hp n) := by
  refine ⟨fun i j p q hi hj e => ?_, fun k q hk => ?_⟩
  · obtain ⟨h1, rfl⟩ := mkN_inv hi
    obtain ⟨h2, rfl⟩ := mkN_inv hj
    have e2 : ad (wunp i) = ad (wunp j) := e
    rw [hA i (by omega), hA j (by omega)] at e2
    omega
  · obtain ⟨h1, rfl⟩ := mkN_inv hk
    exact h k h1
def WLG (ad : Nat → Nat) (base : Nat) (D : va_G) (cI cZ : ClassId) (A : Nat → Prop) (H0 : Heap) (s : State) (n : Nat) (hp : HP) (H : Heap) (locs : List Loc) : Prop :=
  va_K D vwCl [(cI, .int), (cZ, .boolean)] s ∧ va_P D vwCl (mkN ad cI cZ hp n) H ∧ (∀ k, k < n → A (ad (wunp k))) ∧ va_S A H0 H locs ∧ (∀ q, H0.size ≤ q → A q) ∧ H.size = base + n ∧ AdB ad base ∧ n ≤ 48
def CXG (Y : MY) (d : Nat) (p : Program) (R : Room) (s : State) (m : MethodId) (args : Array Value) (meth : Method) (c : Code) : Prop :=
  p.tables.exec = Jvm.exec ∧ c.code = Y.2.1 ∧ c.maxLocals = Y.2.2.1 ∧ s.vm.findClass Y.1 = some m.cls ∧ (∀ w ∈ gtbl, w.before args s = true) ∧ d ≤ R.frames ∧ 40 * d ≤ R.locals ∧ meth.name = "<init>"
def GX (Y : MY) (d : Nat) (pc : Nat) (l st : List Value) (n : Nat) (hp : HP) (kc ks : Nat) (Q : Nat → HP → Prop) : Prop :=
  ∀ (p : Program) (lch : Launch) (e : Env) (R : Room) (s : State) (m : MethodId) (args : Array Value) (below : List Frame) (meth : Method) (c : Code) (H : Heap) (locs : List Loc) (cells slots : Nat) (ad : Nat → Nat) (base : Nat) (D : va_G) (cI cZ : ClassId) (A : Nat → Prop) (H0 : Heap) (Qm : State → Prop) (ls : Array Slot), CXG Y d p R s m args meth c → cells + kc ≤ R.cells → slots + ks ≤ R.slots → WLG ad base D cI cZ A H0 s n hp H locs → lvr ad ls Y.2.2.1 l →
    (∀ (n' : Nat) (hp' : HP) (H' : Heap) (locs' : List Loc) (pc' : Nat) (ls' : Array Slot), Q n' hp' → WLG ad base D cI cZ A H0 s n' hp' H' locs' → decode Y.2.1 pc' = .ok (.return_, 1) → W p lch e R s m args below meth c H' locs' (cells + kc) (slots + ks) Qm (F0 m pc' ls' [])) →
    W p lch e R s m args below meth c H locs cells slots Qm (F0 m pc ls (st.map (cv ad)))
/-! rows that make a cell, or write one, with the heap's size told -/
theorem wg_new {p : Program} {lch : Launch} {e : Env} {R : Room} {s : State} {m : MethodId} {args : Array Value} {below : List Frame} {meth : Method} {c : Code} {H : Heap} {locs : List Loc} {cells slots : Nat} {ad : Nat → Nat} {base : Nat} {D : va_G} {cI cZ : ClassId} {A : Nat → Prop} {H0 : Heap} {Qm : State → Prop} {ls : Array Slot} {n : Nat} {hp : HP} {cc : ByteArray} {own : String} {pc index : Nat} {rest : List Value} {kn : Nat} (hx : p.tables.exec = Jvm.exec) (hb : c.code = cc) (hts : ∀ w ∈ gtbl, w.before args s = true) (hown : s.vm.findClass own = some m.cls) {C : String} {T : u_T} {N ci : Nat} {ty : Nat → FieldType} (hcls : CLS ci C T N ty) (hcl : Cond.classLink own index C ∈ gtbl) (hinst : Cond.instantiable C N ∈ gtbl) (hini : Cond.initialized C ∈ gtbl) {fs : List Value} (hfs : ∀ j, j < N → defaultValue (ty j) = vp_V (fs.map (cv ad)) j) (hcells : cells + 1 ≤ R.cells) (hslots : slots + N ≤ R.slots) (hdg : decode cc pc = .ok (.new index, 3)) (hW : WLG ad base D cI cZ A H0 s n hp H locs) (hnk : n < 48 ∧ wunp n = kn)
    (kk : ∀ H1 : Heap, WLG ad base D cI cZ A H0 s (n + 1) (hup hp kn (.inr (ci, fs))) H1 locs → W p lch e R s m args below meth c H1 locs (cells + 1) (slots + N) Qm (F0 m (pc + 3) ls (.ref (ad kn) :: rest))) : W p lch e R s m args below meth c H locs cells slots Qm (F0 m pc ls rest) := by
  obtain ⟨hK, hP, hAk, hS, hA, hsz, hAd, hn50⟩ := hW
  obtain ⟨hc, hin, hty, -⟩ := hcls
  have hKn := hK.1 ci _ hc
  obtain ⟨hn, rfl⟩ := hnk
  have ea : H.size = ad (wunp n) := by rw [hsz, hAd n hn]
  refine W.newcK hx hb hown (hts _ hcl) (hts _ hinst) (hts _ hini) rfl hdg hcells hslots hKn.2.1 ea fun H1 kC hkC e1 z1 o1 => ?_
  rw [← ea] at z1 o1
  have hk : ∀ (k : Nat) (x : Nat × va_E), (mkN ad cI cZ hp n)[k]? = some x → H1[x.1]? = H[x.1]? := fun k x hx => o1 x.1 ((hP k x hx).lt)
  have hP1 := (hP.kept hk).app (w2 := [(ad (wunp n), cE ad cI cZ (.inr (ci, fs)))]) (fun k x hx => by
    have hz : k < 1 := (List.getElem?_eq_some_iff.mp hx).1
    rw [show k = 0 by omega] at hx
    cases hx
    exact ⟨_, hc, (u_born ty hts hin hKn hkC e1 hty).to hfs⟩)
  rw [mkN_push] at hP1
  refine kk H1 ⟨hK, hP1, fun k hk2 => ?_, ⟨Nat.le_trans hS.1 (by omega), fun x h1 h2 => (o1 x (Nat.lt_of_lt_of_le h1 hS.1)).trans (hS.2.1 x h1 h2), hS.2.2⟩, hA, by omega, hAd, by omega⟩
  by_cases e9 : k < n
  · exact hAk k e9
  · rw [show k = n by omega, ← ea]
    exact hA _ hS.1
theorem wg_newai {p : Program} {lch : Launch} {e : Env} {R : Room} {s : State} {m : MethodId} {args : Array Value} {below : List Frame} {meth : Method} {c : Code} {H : Heap} {locs : List Loc} {cells slots : Nat} {ad : Nat → Nat} {base : Nat} {D : va_G} {cI cZ : ClassId} {A : Nat → Prop} {H0 : Heap} {Qm : State → Prop} {ls : Array Slot} {n : Nat} {hp : HP} {cc : ByteArray} {pc : Nat} {rest : List Value} {kn : Nat} (hx : p.tables.exec = Jvm.exec) (hb : c.code = cc) (hts : ∀ w ∈ gtbl, w.before args s = true) (harr : Cond.arrayClass .int ∈ gtbl) {x : Int32} {N : Nat} (hx0 : ¬ x < 0) (hN : x.toNatClampNeg = N) (hbytes : N * 4 ≤ 536870912) (hcells : cells + 1 ≤ R.cells) (hslots : slots + N ≤ R.slots) (hdg : decode cc pc = .ok (.newarray .int, 2)) (hW : WLG ad base D cI cZ A H0 s n hp H locs) (hnk : n < 48 ∧ wunp n = kn)
    (kk : ∀ H1 : Heap, WLG ad base D cI cZ A H0 s (n + 1) (hup hp kn (.inl (false, N, fun _ => 0))) H1 locs → W p lch e R s m args below meth c H1 locs (cells + 1) (slots + N) Qm (F0 m (pc + 2) ls (.ref (ad kn) :: rest))) : W p lch e R s m args below meth c H locs cells slots Qm (F0 m pc ls (.int x :: rest)) := by
  obtain ⟨hK, hP, hAk, hS, hA, hsz, hAd, hn50⟩ := hW
  obtain ⟨hn, rfl⟩ := hnk
  have ea : H.size = ad (wunp n) := by rw [hsz, hAd n hn]
  have hbt : N * componentBytes (newarray.typeOf .int) ≤ 536870912 := Nat.le_trans (Nat.mul_le_mul_left N (by decide)) hbytes
  refine va_newaK (atype := .int) hx hb (hts _ harr) rfl hdg rfl hx0 hN hbt hcells hslots ea fun H1 cA e1 z1 o1 hAr hNm => ?_
  have ec : cA = cI := Option.some.inj (hNm.symm.trans (hK.2 0 _ rfl).2)
  subst ec
  rw [← ea] at z1 o1
  have hk : ∀ (k : Nat) (x : Nat × va_E), (mkN ad cA cZ hp n)[k]? = some x → H1[x.1]? = H[x.1]? := fun k x hx => o1 x.1 ((hP k x hx).lt)
  have hP1 := (hP.kept hk).app (w2 := [(ad (wunp n), cE ad cA cZ (.inl (false, N, fun _ => 0)))]) (fun k x hx => by
    have hz : k < 1 := (List.getElem?_eq_some_iff.mp hx).1
    rw [show k = 0 by omega] at hx
    cases hx
    exact e1)
  rw [mkN_push] at hP1
  refine kk H1 ⟨hK, hP1, fun k hk2 => ?_, ⟨Nat.le_trans hS.1 (by omega), fun x h1 h2 => (o1 x (Nat.lt_of_lt_of_le h1 hS.1)).trans (hS.2.1 x h1 h2), hS.2.2⟩, hA, by omega, hAd, by omega⟩
  by_cases e9 : k < n
  · exact hAk k e9
  · rw [show k = n by omega, ← ea]
    exact hA _ hS.1
theorem wg_newaz {p : Program} {lch : Launch} {e : Env} {R : Room} {s : State} {m : MethodId} {args : Array Value} {below : List Frame} {meth : Method} {c : Code} {H : Heap} {locs : List Loc} {cells slots : Nat} {ad : Nat → Nat} {base : Nat} {D : va_G} {cI cZ : ClassId} {A : Nat → Prop} {H0 : Heap} {Qm : State → Prop} {ls : Array Slot} {n : Nat} {hp : HP} {cc : ByteArray} {pc : Nat} {rest : List Value} {kn : Nat} (hx : p.tables.exec = Jvm.exec) (hb : c.code = cc) (hts : ∀ w ∈ gtbl, w.before args s = true) (harr : Cond.arrayClass .boolean ∈ gtbl) {x : Int32} {N : Nat} (hx0 : ¬ x < 0) (hN : x.toNatClampNeg = N) (hbytes : N * 4 ≤ 536870912) (hcells : cells + 1 ≤ R.cells) (hslots : slots + N ≤ R.slots) (hdg : decode cc pc = .ok (.newarray .boolean, 2)) (hW : WLG ad base D cI cZ A H0 s n hp H locs) (hnk : n < 48 ∧ wunp n = kn)
    (kk : ∀ H1 : Heap, WLG ad base D cI cZ A H0 s (n + 1) (hup hp kn (.inl (true, N, fun _ => 0))) H1 locs → W p lch e R s m args below meth c H1 locs (cells + 1) (slots + N) Qm (F0 m (pc + 2) ls (.ref (ad kn) :: rest))) : W p lch e R s m args below meth c H locs cells slots Qm (F0 m pc ls (.int x :: rest)) := by
  obtain ⟨hK, hP, hAk, hS, hA, hsz, hAd, hn50⟩ := hW
  obtain ⟨hn, rfl⟩ := hnk
  have ea : H.size = ad (wunp n) := by rw [hsz, hAd n hn]
  have hbt : N * componentBytes (newarray.typeOf .boolean) ≤ 536870912 := Nat.le_trans (Nat.mul_le_mul_left N (by decide)) hbytes
  refine va_newaK (atype := .boolean) hx hb (hts _ harr) rfl hdg rfl hx0 hN hbt hcells hslots ea fun H1 cA e1 z1 o1 hAr hNm => ?_
  have ec : cA = cZ := Option.some.inj (hNm.symm.trans (hK.2 1 _ rfl).2)
  subst ec
  rw [← ea] at z1 o1
  have hk : ∀ (k : Nat) (x : Nat × va_E), (mkN ad cI cA hp n)[k]? = some x → H1[x.1]? = H[x.1]? := fun k x hx => o1 x.1 ((hP k x hx).lt)
  have hP1 := (hP.kept hk).app (w2 := [(ad (wunp n), cE ad cI cA (.inl (true, N, fun _ => 0)))]) (fun k x hx => by
    have hz : k < 1 := (List.getElem?_eq_some_iff.mp hx).1
    rw [show k = 0 by omega] at hx
    cases hx
    exact e1)
  rw [mkN_push] at hP1
  refine kk H1 ⟨hK, hP1, fun k hk2 => ?_, ⟨Nat.le_trans hS.1 (by omega), fun x h1 h2 => (o1 x (Nat.lt_of_lt_of_le h1 hS.1)).trans (hS.2.1 x h1 h2), hS.2.2⟩, hA, by omega, hAd, by omega⟩
  by_cases e9 : k < n
  · exact hAk k e9
  · rw [show k = n by omega, ← ea]
    exact hA _ hS.1
def FLF (ci k : Nat) (C : String) : Prop := ∀ r : vw_C, vwCl[ci]? = some r → (r.2.1 k).2.2.2 = true ∧ r.1 = C
set_option maxHeartbeats 1000000 in
theorem wg_put {p : Program} {lch : Launch} {e : Env} {R : Room} {s : State} {m : MethodId} {args : Array Value} {below : List Frame} {meth : Method} {c : Code} {H : Heap} {locs : List Loc} {cells slots : Nat} {ad : Nat → Nat} {base : Nat} {D : va_G} {cI cZ : ClassId} {A : Nat → Prop} {H0 : Heap} {Qm : State → Prop} {ls : Array Slot} {n : Nat} {hp : HP} {cc : ByteArray} {own : String} {pc index : Nat} {rest : List Value} (hx : p.tables.exec = Jvm.exec) (hb : c.code = cc) (hts : ∀ w ∈ gtbl, w.before args s = true) (hown : s.vm.findClass own = some m.cls) {ci k a : Nat} {ty : FieldType} {fs : List Value} {v : Value} (hF : FLK own index ci k ty) (hf : FLP ci k) (ha : LVn a n) (hk : hp a = .inr (ci, fs)) (hnf : narrow ty (cv ad v) = cv ad v ∧ fits ty (cv ad v) = true) (hkl : k < fs.length) (hdg : decode cc pc = .ok (.putfield index, 3)) (hW : WLG ad base D cI cZ A H0 s n hp H locs)
    (kk : ∀ (H1 : Heap) (locs1 : List Loc), WLG ad base D cI cZ A H0 s n (hup hp a (.inr (ci, fs.set k v))) H1 locs1 → W p lch e R s m args below meth c H1 locs1 cells slots Qm (F0 m (pc + 3) ls rest)) : W p lch e R s m args below meth c H locs cells slots Qm (F0 m pc ls (cv ad v :: .ref (ad a) :: rest)) := by
  obtain ⟨hK, hP, hAk, hS0, hA, hsz, hAd, hn50⟩ := hW
  obtain ⟨C, T, N, ty1, ⟨hc, hin0, hty, hnm⟩, hkN, hlink, hTC, hty2⟩ := hF
  have hD : va_D A (mkN ad cI cZ hp n) := mkN_D hAd hn50 hAk
  have he : (mkN ad cI cZ hp n)[wpos a]? = some (ad a, .inr (ci, fs.map (cv ad))) := by rw [mkN_get ha, hk]; rfl
  have hap := va_apart (own := own) hts hin0 ty1 hty hnm hK hc
  have hd : parseFieldDescriptor (T k).2.2.1 = some ty := by rw [hty k hkN, hty2]
  have hsame : ∀ x, s.fieldFound? (T k).1 (T k).2.1 (T k).2.2.1 = some x → s.fieldFound? C (T k).2.1 (T k).2.2.1 = some x := fun x h => by rw [hTC] at h; exact h
  obtain ⟨r, h1, cell, q1, q2, q3, q4⟩ := hP (wpos a) _ he
  have hr : r = (C, T, N) := Option.some.inj (h1.symm.trans hc)
  subst hr
  obtain ⟨hS, hfc, kC, hkC, hkind⟩ := hK.1 ci _ hc
  obtain ⟨cf, kf, fi, f, hi, hsl⟩ := hS k hkN
  have hlay := hts _ (hin0 _ (u_in_lay hkN))
  unfold u_lay at hlay
  rw [if_neg (by rw [hf _ hc]; decide)] at hlay
  have hst := (u_facts hfc hkC (u_lays hts hin0 hkN) hi).1
  have h6 := u_store hfc hkC hkind hlay hi hd hnf.1 hnf.2
  refine W.putK hx hb (f := f) ⟨hown, hts _ hlink, ⟨_, _, _, hsame _ hi⟩, hst⟩ (by rw [q2]; exact h6) q1 q3 (by rw [hsl]; exact k2_hasslot (q4 k hkN)) rfl rfl hdg fun H' e1 e2 e3 => ?_
  rw [hsl] at e1 ⊢
  have hl : k < (fs.map (cv ad)).length := by rw [List.length_map]; exact hkl
  have hP2 := hP.set hD he (e := .inr (ci, (fs.map (cv ad)).set k (cv ad v))) ⟨_, hc, t_OB.to (V := updV (vp_V (fs.map (cv ad))) k (cv ad v)) ⟨_, e1, q2, q3, t_set q4 hap hkN (cv ad v)⟩ (fun j _ => vp_updV_set hl (cv ad v) j)⟩ e3
  have e9 : (mkN ad cI cZ hp n).set (wpos a) (ad a, .inr (ci, (fs.map (cv ad)).set k (cv ad v))) = mkN ad cI cZ (hup hp a (.inr (ci, fs.set k v))) n := by
    rw [← mkN_set ha]
    simp [cE, List.map_set]
  rw [e9] at hP2
  exact kk H' _ ⟨hK, hP2, hAk, hS0.put e2 e3 (hD.2 (wpos a) _ he), hA, by rw [e2]; exact hsz, hAd, hn50⟩
set_option maxHeartbeats 1000000 in
theorem wg_putF {p : Program} {lch : Launch} {e : Env} {R : Room} {s : State} {m : MethodId} {args : Array Value} {below : List Frame} {meth : Method} {c : Code} {H : Heap} {locs : List Loc} {cells slots : Nat} {ad : Nat → Nat} {base : Nat} {D : va_G} {cI cZ : ClassId} {A : Nat → Prop} {H0 : Heap} {Qm : State → Prop} {ls : Array Slot} {n : Nat} {hp : HP} {cc : ByteArray} {own : String} {pc index : Nat} {rest : List Value} (hx : p.tables.exec = Jvm.exec) (hb : c.code = cc) (hts : ∀ w ∈ gtbl, w.before args s = true) (hown : s.vm.findClass own = some m.cls) {ci k a : Nat} {ty : FieldType} {fs : List Value} {v : Value} (hF : FLK own index ci k ty) (hf : FLF ci k own) (hin2 : meth.name = "<init>") (ha : LVn a n) (hk : hp a = .inr (ci, fs)) (hnf : narrow ty (cv ad v) = cv ad v ∧ fits ty (cv ad v) = true) (hkl : k < fs.length) (hdg : decode cc pc = .ok (.putfield index, 3)) (hW : WLG ad base D cI cZ A H0 s n hp H locs)
    (kk : ∀ (H1 : Heap) (locs1 : List Loc), WLG ad base D cI cZ A H0 s n (hup hp a (.inr (ci, fs.set k v))) H1 locs1 → W p lch e R s m args below meth c H1 locs1 cells slots Qm (F0 m (pc + 3) ls rest)) : W p lch e R s m args below meth c H locs cells slots Qm (F0 m pc ls (cv ad v :: .ref (ad a) :: rest)) := by
  obtain ⟨hK, hP, hAk, hS0, hA, hsz, hAd, hn50⟩ := hW
  obtain ⟨C, T, N, ty1, ⟨hc, hin0, hty, hnm⟩, hkN, hlink, hTC, hty2⟩ := hF
  have hD : va_D A (mkN ad cI cZ hp n) := mkN_D hAd hn50 hAk
  have he : (mkN ad cI cZ hp n)[wpos a]? = some (ad a, .inr (ci, fs.map (cv ad))) := by rw [mkN_get ha, hk]; rfl
  have hap := va_apart (own := own) hts hin0 ty1 hty hnm hK hc
  have hd : parseFieldDescriptor (T k).2.2.1 = some ty := by rw [hty k hkN, hty2]
  have hsame : ∀ x, s.fieldFound? (T k).1 (T k).2.1 (T k).2.2.1 = some x → s.fieldFound? C (T k).2.1 (T k).2.2.1 = some x := fun x h => by rw [hTC] at h; exact h
  obtain ⟨r, h1, cell, q1, q2, q3, q4⟩ := hP (wpos a) _ he
  have hr : r = (C, T, N) := Option.some.inj (h1.symm.trans hc)
  subst hr
  obtain ⟨hS, hfc, kC, hkC, hkind⟩ := hK.1 ci _ hc
  obtain ⟨cf, kf, fi, f, hi, hsl⟩ := hS k hkN
  have hlay := hts _ (hin0 _ (u_in_lay hkN))
  unfold u_lay at hlay
  rw [if_pos (hf _ hc).1] at hlay
  have hst := (u_facts hfc hkC (u_lays hts hin0 hkN) hi).1
  have hcf : m.cls = cf := by
    obtain ⟨_, _, c', _, _, _, -, -, hf', -, -, -, hown2, -⟩ := Cond.laysFinal_spec hlay
    have e1 : c' = cf := by have := hi.symm.trans hf'; simp at this; exact this.1.symm
    have hco : C = own := (hf _ hc).2
    rw [hTC, hco] at hown2
    rw [← e1]; exact Option.some.inj (hown.symm.trans hown2)
  have h6 := u_fits hfc hkC hkind (Or.inr hlay) hi hd hnf.1 hnf.2
  refine W.putFinK hx hb hown (hts _ hlink) (hsame _ hi) hst hcf hin2 (by rw [q2]; exact h6) q1 q3 (by rw [hsl]; exact k2_hasslot (q4 k hkN)) rfl rfl hdg fun H' e1 e2 e3 => ?_
  rw [hsl] at e1 ⊢
  have hl : k < (fs.map (cv ad)).length := by rw [List.length_map]; exact hkl
  have hP2 := hP.set hD he (e := .inr (ci, (fs.map (cv ad)).set k (cv ad v))) ⟨_, hc, t_OB.to (V := updV (vp_V (fs.map (cv ad))) k (cv ad v)) ⟨_, e1, q2, q3, t_set q4 hap hkN (cv ad v)⟩ (fun j _ => vp_updV_set hl (cv ad v) j)⟩ e3
  have e9 : (mkN ad cI cZ hp n).set (wpos a) (ad a, .inr (ci, (fs.map (cv ad)).set k (cv ad v))) = mkN ad cI cZ (hup hp a (.inr (ci, fs.set k v))) n := by
    rw [← mkN_set ha]
    simp [cE, List.map_set]
  rw [e9] at hP2
  exact kk H' _ ⟨hK, hP2, hAk, hS0.put e2 e3 (hD.2 (wpos a) _ he), hA, by rw [e2]; exact hsz, hAd, hn50⟩
set_option maxHeartbeats 1000000 in
theorem wg_iast {p : Program} {lch : Launch} {e : Env} {R : Room} {s : State} {m : MethodId} {args : Array Value} {below : List Frame} {meth : Method} {c : Code} {H : Heap} {locs : List Loc} {cells slots : Nat} {ad : Nat → Nat} {base : Nat} {D : va_G} {cI cZ : ClassId} {A : Nat → Prop} {H0 : Heap} {Qm : State → Prop} {ls : Array Slot} {n : Nat} {hp : HP} {cc : ByteArray} {pc : Nat} {rest : List Value} (hx : p.tables.exec = Jvm.exec) (hb : c.code = cc) {a N j : Nat} {f : Nat → Int32} {x : Int32} (ha : LVn a n) (hk : hp a = .inl (false, N, f)) (hj : j < N) (hN : N < 2 ^ 31) (hdg : decode cc pc = .ok (.iastore, 1)) (hW : WLG ad base D cI cZ A H0 s n hp H locs)
    (kk : ∀ (H1 : Heap) (locs1 : List Loc), WLG ad base D cI cZ A H0 s n (hup hp a (.inl (false, N, upd f j x))) H1 locs1 → W p lch e R s m args below meth c H1 locs1 cells slots Qm (F0 m (pc + 1) ls rest)) : W p lch e R s m args below meth c H locs cells slots Qm (F0 m pc ls (.int x :: .int (nI j) :: .ref (ad a) :: rest)) := by
  obtain ⟨hK, hP, hAk, hS0, hA, hsz, hAd, hn50⟩ := hW
  have hD : va_D A (mkN ad cI cZ hp n) := mkN_D hAd hn50 hAk
  have he : (mkN ad cI cZ hp n)[wpos a]? = some (ad a, .inl (cI, N, .inl f)) := by rw [mkN_get ha, hk]; rfl
  have hin : vp_in (nI j) N := vp_in_nI hj hN
  refine W.iast hx hb (hP (wpos a) _ he) ((hK.2 0 _ rfl).1 N (fun j => .int (f j))) (fun q => by cases q) (by show ¬ (nI j < 0 ∨ (arrV _ _ _).slots.size ≤ _); rw [arrV_size]; exact hin) rfl rfl hdg fun H1 e z oq => ?_
  have hP2 := hP.set hD he (e := .inl (cI, N, .inl (upd f j x))) (by
    show H1[ad a]? = some (vp_cell _ _)
    rw [e]
    rw [vp_cell_i, vp_cell_i, arrV_store]
    congr 2
    funext q
    have hc : (nI j).toNatClampNeg = j := nI_clamp (by omega)
    by_cases hq : q = j
    · subst hq
      simp [updV, upd, hc]
    · simp [updV, upd, hq, hc]) oq
  have e9 : (mkN ad cI cZ hp n).set (wpos a) (ad a, .inl (cI, N, .inl (upd f j x))) = mkN ad cI cZ (hup hp a (.inl (false, N, upd f j x))) n := by
    rw [← mkN_set ha]
    rfl
  rw [e9] at hP2
  exact kk H1 _ ⟨hK, hP2, hAk, hS0.put z oq (hD.2 (wpos a) _ he), hA, by rw [z]; exact hsz, hAd, hn50⟩
/-! a constructor's contract out of GX, and its call -/
def rmG (d kc ks : Nat) : Room := { frames := d, cells := kc, slots := ks, locals := 40 * d }
def BG (D : va_G) (cI cZ : ClassId) (ad : Nat → Nat) (base n : Nat) (hp : HP) (U : State) : Prop :=
  U.heap.size = base + n ∧ va_P D vwCl (mkN ad cI cZ hp n) U.heap ∧ va_K D vwCl [(cI, .int), (cZ, .boolean)] U
def QcG (D : va_G) (cI cZ : ClassId) (ad : Nat → Nat) (base n : Nat) (hp : HP) (Q : Nat → HP → Prop) : Array Value → State → Outcome → State → Prop := fun _ st oc t =>
  (∃ (n' : Nat) (hp' : HP), oc = .returned none ∧ Q n' hp' ∧ va_P D vwCl (mkN ad cI cZ hp' n') t.heap ∧ t.heap.size = base + n' ∧ n' ≤ 48) ∧ va_F (va_A (mkN ad cI cZ hp n) (base + n)) st t
theorem BG_blind {D : va_G} {cI cZ : ClassId} {ad : Nat → Nat} {base n : Nat} {hp : HP} {av : List Value} : FrameBlind (va_Pc av (BG D cI cZ ad base n hp)) := by
  intro a U g mk q
  obtain ⟨q0, q1, q2, q3⟩ := q
  exact ⟨q0, q1, q2, va_K.moved (u := U) (U := U.calling g mk a) (Vm.Alike.refl U.vm) q3⟩
set_option maxHeartbeats 1000000 in
theorem met_of_G {l : Launch} {y : MethodName} {Y : MY} {d k n kc ks : Nat} {hp : HP} {Q : Nat → HP → Prop} (hpl : plainName y.cls = true) (hY : Y.1 = y.cls) (hyn : y.name = "<init>") (hret : Y.2.2.2.1 = none) (hm1 : 1 ≤ Y.2.2.1) (hn50 : n ≤ 48) (hE : GX Y d 0 (ent Y.2.2.1 [.ref k]) [] n hp kc ks Q) (D : va_G) (cI cZ : ClassId) (ad : Nat → Nat) (base : Nat) (hAd : AdB ad base) :
    Met l y (wsd y Y) (rmG d kc ks) (va_Pc [.ref (ad k)] (BG D cI cZ ad base n hp)) (QcG D cI cZ ad base n hp Q) kc ks (va_A (mkN ad cI cZ hp n) (base + n)) := by
  refine Met.ofW (cc := Y.2.1) (maxL := Y.2.2.1) (ret := none) hpl (by rw [wsd, hret]) ?_
  intro p e s m args below meth c s₁ B hml hv
  obtain ⟨rfl, hsz, hP, hK⟩ := hv
  have hx := B.exec
  have hb := B.bytes
  have hr := B.returns
  have hts := atoms_spec (ws := wsd y Y) B.pre
  have hown : s.vm.findClass Y.1 = some m.cls := by rw [hY]; exact findClass_of_methodNamed B.named
  have hlocks := B.notSynchronized
  have hin : meth.name = "<init>" := (name_of_methodNamed B.named B.method).1.trans hyn
  have hS : va_S (va_A (mkN ad cI cZ hp n) (base + n)) s.heap s.heap [] := va_S.rf
  rw [lg_entry_eq]
  have hfit : (lg_sl [.ref k]).length ≤ Y.2.2.1 := hm1
  refine hE p l e (rmG d kc ks) s m _ below meth c s.heap [] 0 0 ad base D cI cZ (va_A (mkN ad cI cZ hp n) (base + n)) s.heap _ _ ⟨hx, hb, hml, hown, fun w hw => hts w (List.mem_cons_of_mem _ hw), Nat.le_refl _, Nat.le_refl _, hin⟩ (by simp [rmG]) (by simp [rmG]) ⟨hK, hP, fun k hk => Or.inl ⟨k, _, mkN_at hk⟩, hS, fun q h => Or.inr (by rw [← hsz]; exact h), hsz, hAd, hn50⟩ (ent_lvr (vs := [.ref k]) hfit) ?_
  intro n' hp' H' locs' pc' ls' hQ hW hd
  obtain ⟨hK2, hP2, -, hS2, -, hsz2, -, hn2⟩ := hW
  rw [Nat.zero_add, Nat.zero_add]
  exact W.vret hx hb hr (fun t ht hWm => ⟨⟨n', hp', rfl, hQ, by rw [ht]; exact hP2, by rw [ht]; exact hsz2, hn2⟩, hS2.F ht⟩) hS2.2.2 hd hlocks
/-- what the tables say of a constructor that is called -/
def MTI (y : MethodName) (Y : MY) : Prop := Cond.initialized y.cls ∈ gtbl ∧ Cond.code y Y.2.1 Y.2.2.1 none ∈ gtbl ∧ Cond.instanceMethod y ∈ gtbl ∧ (y.cls ≠ "java/lang/invoke/MethodHandle" ∧ y.cls ≠ "java/lang/invoke/VarHandle" ∧ (parseMethodDescriptor y.desc).map (fun d => d.parameters.length) = some 0) ∧ plainName y.cls = true ∧ Y.1 = y.cls ∧ y.name = "<init>" ∧ Y.2.2.2.1 = none ∧ 1 ≤ Y.2.2.1 ∧ Y.2.2.1 ≤ 21
set_option maxHeartbeats 1000000 in
theorem wg_ctor {p : Program} {lch : Launch} {e : Env} {R : Room} {s : State} {m : MethodId} {args : Array Value} {below : List Frame} {meth : Method} {c : Code} {H : Heap} {locs : List Loc} {cells slots : Nat} {ad : Nat → Nat} {base : Nat} {D : va_G} {cI cZ : ClassId} {A : Nat → Prop} {H0 : Heap} {Qm : State → Prop} {ls : Array Slot} {n : Nat} {hp : HP} {cc : ByteArray} {own : String} {pc index : Nat} {rest : List Value} {nL : Nat} {y : MethodName} {Y' : MY} {d k kc ks : Nat} {Q1 : Nat → HP → Prop} (hx : p.tables.exec = Jvm.exec) (hb : c.code = cc) (hml : c.maxLocals = nL) (hts : ∀ w ∈ gtbl, w.before args s = true) (hown : s.vm.findClass own = some m.cls) (hM : MTI y Y') (hlk : Cond.methodLink own index y ∈ gtbl) (hE : GX Y' d 0 (ent Y'.2.2.1 [.ref k]) [] n hp kc ks Q1) (hRm : d + 1 ≤ R.frames ∧ 40 * (d + 1) ≤ R.locals) (hls : ls.size = nL) (hrm : (rest.map fun v => v.category).sum ≤ 8) (hdg : decode cc pc = .ok (.invokespecial index, 3)) (hcs : cells + kc ≤ R.cells ∧ slots + ks ≤ R.slots) (hW : WLG ad base D cI cZ A H0 s n hp H locs)
    (kk : ∀ (n' : Nat) (hp' : HP) (H1 : Heap) (locs1 : List Loc), Q1 n' hp' → WLG ad base D cI cZ A H0 s n' hp' H1 locs1 → W p lch e R s m args below meth c H1 locs1 (cells + kc) (slots + ks) Qm (F0 m (pc + 3) ls rest)) : W p lch e R s m args below meth c H locs cells slots Qm (F0 m pc ls (.ref (ad k) :: rest)) := by
  obtain ⟨hK, hP, hAk, hS, hA, hsz, hAd, hn50⟩ := hW
  obtain ⟨hini, hcode, hinst, hdd, hpl, hY1, hyn, hret, hm1, hm21⟩ := hM
  have hMet := met_of_G (l := lch) (y := y) hpl hY1 hyn hret hm1 hn50 hE D cI cZ ad base hAd
  have hGood : GoodIn gtbl (wsd y Y') := by
    intro w hw
    rcases List.mem_cons.mp hw with rfl | hw
    · rw [hret]; exact ⟨hcode, gtbl_good hcode⟩
    · exact ⟨hw, gtbl_good hw⟩
  have hR2 : (rmG d kc ks).frames + 1 ≤ R.frames ∧ 8 + (Y'.2.2.1 + 11) + (rmG d kc ks).locals ≤ R.locals := by
    have h1 := hRm.1
    have h2 := hRm.2
    simp only [rmG]
    omega
  have hBl : PreS s H (va_Pc [.ref (ad k)] (BG D cI cZ ad base n hp)) [.ref (ad k)] := ⟨BG_blind, fun U hU hWm => ⟨rfl, by rw [hU]; exact hsz, by rw [hU]; exact hP, va_K.moved hWm.alike hK⟩⟩
  have hfx : CallFix p m c cc nL s args gtbl own := ⟨hx, hb, hml, hown, hts⟩
  have hrun := va_runI (l := lch) (e := e) (H := H) (below := below) (meth := meth) (locs := locs) (cells := cells) (slots := slots) (As := []) (rest := rest) (b := ad k) (g := F0 m pc ls (.ref (ad k) :: rest)) (mc := kc) (ms := ks) hfx hMet (cwI 0 hts hGood (by rw [wsd, hret]) rfl rfl (hts _ hini) (hts _ hlk) (hts _ hinst) hyn hdd hR2) hBl rfl rfl hls rfl (lv_room hrm) hdg hcs
  intro T hT X
  obtain ⟨v, st₀, t, T', L, h0, X', hL, e1, e2, ⟨⟨n', hp', hv, hq, hp1, hz1, hn1⟩, hz, hk⟩, st⟩ := hrun T hT X
  cases hv
  rw [h0] at hz hk
  have hf : ∀ q, va_A (mkN ad cI cZ hp n) (base + n) q → A q := by
    intro q h
    rcases h with ⟨k, e', h⟩ | h
    · obtain ⟨h1, h2⟩ := mkN_inv h
      cases h2
      exact hAk k h1
    · exact hA q (Nat.le_trans hS.1 (by rw [hsz]; exact h))
  have hAk2 : ∀ k, k < n' → A (ad (wunp k)) := by
    intro k hk2
    by_cases e9 : k < n
    · exact hAk k e9
    · refine hA _ (Nat.le_trans hS.1 ?_)
      rw [hsz, hAd k (by omega)]
      omega
  obtain ⟨t2, a1, b1⟩ := kk n' hp' T'.heap (locs ++ L) hq ⟨hK, by rw [e1]; exact hp1, hAk2, ⟨Nat.le_trans hS.1 (by rw [e1]; exact hz), fun q h1 h2 => by rw [e1, hk q (Nat.lt_of_lt_of_le h1 hS.1) (fun z => h2 (hf q z))]; exact hS.2.1 q h1 h2, fun q hq => by
      rcases List.mem_append.mp hq with h | h
      · exact hS.2.2 q h
      · exact hf _ (hL q h)⟩, hA, by rw [e1]; exact hz1, hAd, hn1⟩ T' rfl X'
  exact ⟨t2, st t2 a1, b1⟩
theorem G_iconst {Y : MY} {d pc : Nat} {l st : List Value} {n kc ks : Nat} {hp : HP} {Q : Nat → HP → Prop} {x : Int} {v : Int32} (hd : decode Y.2.1 pc = .ok (.iconst x, 1)) (hv : Int32.ofInt x = v) (kk : GX Y d (pc + 1) l (.int v :: st) n hp kc ks Q) : GX Y d pc l st n hp kc ks Q := by
  intro p lch e R s m args below meth c H locs cells slots ad base D cI cZ A H0 Qm ls hC hc1 hc2 hW hl hR
  exact lv_iconst hC.1 hC.2.1 hd hv (kk p lch e R s m args below meth c H locs cells slots ad base D cI cZ A H0 Qm ls hC hc1 hc2 hW hl hR)
theorem G_bipush {Y : MY} {d pc : Nat} {l st : List Value} {n kc ks : Nat} {hp : HP} {Q : Nat → HP → Prop} {x : Int} {v : Int32} (hd : decode Y.2.1 pc = .ok (.bipush x, 2)) (hv : (Int8.ofInt x).toInt32 = v) (kk : GX Y d (pc + 2) l (.int v :: st) n hp kc ks Q) : GX Y d pc l st n hp kc ks Q := by
  intro p lch e R s m args below meth c H locs cells slots ad base D cI cZ A H0 Qm ls hC hc1 hc2 hW hl hR
  exact lv_bipush hC.1 hC.2.1 hd hv (kk p lch e R s m args below meth c H locs cells slots ad base D cI cZ A H0 Qm ls hC hc1 hc2 hW hl hR)
theorem G_aload_n {Y : MY} {d pc : Nat} {l st : List Value} {n kc ks : Nat} {hp : HP} {Q : Nat → HP → Prop} {k : Fin 4} {x : Nat} (hd : decode Y.2.1 pc = .ok (.aload_n k, 1)) (hv : l[(k : Nat)]? = some (.ref x)) (kk : GX Y d (pc + 1) l (.ref x :: st) n hp kc ks Q) : GX Y d pc l st n hp kc ks Q := by
  intro p lch e R s m args below meth c H locs cells slots ad base D cI cZ A H0 Qm ls hC hc1 hc2 hW hl hR
  exact lv_aload_n hC.1 hC.2.1 hd rfl (lvr_at hl hv (by intro h; cases h)) (kk p lch e R s m args below meth c H locs cells slots ad base D cI cZ A H0 Qm ls hC hc1 hc2 hW hl hR)
theorem G_iload_n {Y : MY} {d pc : Nat} {l st : List Value} {n kc ks : Nat} {hp : HP} {Q : Nat → HP → Prop} {k : Fin 4} {x : Int32} (hd : decode Y.2.1 pc = .ok (.iload_n k, 1)) (hv : l[(k : Nat)]? = some (.int x)) (kk : GX Y d (pc + 1) l (.int x :: st) n hp kc ks Q) : GX Y d pc l st n hp kc ks Q := by
  intro p lch e R s m args below meth c H locs cells slots ad base D cI cZ A H0 Qm ls hC hc1 hc2 hW hl hR
  exact lv_iload_n hC.1 hC.2.1 hd rfl (lvr_at hl hv (by intro h; cases h)) (kk p lch e R s m args below meth c H locs cells slots ad base D cI cZ A H0 Qm ls hC hc1 hc2 hW hl hR)
theorem G_dup {Y : MY} {d pc : Nat} {l st : List Value} {n kc ks : Nat} {hp : HP} {Q : Nat → HP → Prop} {v : Value} (hd : decode Y.2.1 pc = .ok (.dup, 1)) (hv : v.category = 1) (kk : GX Y d (pc + 1) l (v :: v :: st) n hp kc ks Q) : GX Y d pc l (v :: st) n hp kc ks Q := by
  intro p lch e R s m args below meth c H locs cells slots ad base D cI cZ A H0 Qm ls hC hc1 hc2 hW hl hR
  exact lv_dup hC.1 hC.2.1 hd ((cv_cat ad v).trans hv) (kk p lch e R s m args below meth c H locs cells slots ad base D cI cZ A H0 Qm ls hC hc1 hc2 hW hl hR)
theorem G_iadd {Y : MY} {d pc : Nat} {l st : List Value} {n kc ks : Nat} {hp : HP} {Q : Nat → HP → Prop} {x y : Int32} (hd : decode Y.2.1 pc = .ok (.iadd, 1)) (kk : GX Y d (pc + 1) l (.int (x + y) :: st) n hp kc ks Q) : GX Y d pc l (.int y :: .int x :: st) n hp kc ks Q := by
  intro p lch e R s m args below meth c H locs cells slots ad base D cI cZ A H0 Qm ls hC hc1 hc2 hW hl hR
  exact lv_iadd hC.1 hC.2.1 hd (kk p lch e R s m args below meth c H locs cells slots ad base D cI cZ A H0 Qm ls hC hc1 hc2 hW hl hR)
theorem G_goto {Y : MY} {d pc : Nat} {l st : List Value} {n kc ks : Nat} {hp : HP} {Q : Nat → HP → Prop} {off : Int} {tgt : Nat} (hd : decode Y.2.1 pc = .ok (.goto off, 3)) (ht : (pc : Int) + off = (tgt : Int)) (kk : GX Y d tgt l st n hp kc ks Q) : GX Y d pc l st n hp kc ks Q := by
  intro p lch e R s m args below meth c H locs cells slots ad base D cI cZ A H0 Qm ls hC hc1 hc2 hW hl hR
  exact lv_goto hC.1 hC.2.1 hd ht (kk p lch e R s m args below meth c H locs cells slots ad base D cI cZ A H0 Qm ls hC hc1 hc2 hW hl hR)
theorem G_icmp_ge {Y : MY} {d pc : Nat} {l st : List Value} {n kc ks : Nat} {hp : HP} {Q : Nat → HP → Prop} {x y : Int32} {off : Int} {tgt : Nat} (hd : decode Y.2.1 pc = .ok (.if_icmp .ge off, 3)) (ht : (pc : Int) + off = (tgt : Int)) (kt : y ≤ x → GX Y d tgt l st n hp kc ks Q) (kf : ¬ y ≤ x → GX Y d (pc + 3) l st n hp kc ks Q) : GX Y d pc l (.int y :: .int x :: st) n hp kc ks Q := by
  intro p lch e R s m args below meth c H locs cells slots ad base D cI cZ A H0 Qm ls hC hc1 hc2 hW hl hR
  exact lv_icmp_ge hC.1 hC.2.1 hd ht (fun c9 => kt c9 p lch e R s m args below meth c H locs cells slots ad base D cI cZ A H0 Qm ls hC hc1 hc2 hW hl hR) (fun c9 => kf c9 p lch e R s m args below meth c H locs cells slots ad base D cI cZ A H0 Qm ls hC hc1 hc2 hW hl hR)
theorem G_istore_n {Y : MY} {d pc : Nat} {l st : List Value} {n kc ks : Nat} {hp : HP} {Q : Nat → HP → Prop} {k : Fin 4} {i : Nat} {x : Int32} {l2 : List Value} (hd : decode Y.2.1 pc = .ok (.istore_n k, 1)) (hi : (k : Nat) = i) (hn : i < Y.2.2.1) (hl2 : stI l i (.int x) = l2) (kk : GX Y d (pc + 1) l2 st n hp kc ks Q) : GX Y d pc l (.int x :: st) n hp kc ks Q := by
  intro p lch e R s m args below meth c H locs cells slots ad base D cI cZ A H0 Qm ls hC hc1 hc2 hW hl hR
  exact lv_istore_n hC.1 hC.2.1 hd hi hl hn rfl (fun ls2 h2 => kk p lch e R s m args below meth c H locs cells slots ad base D cI cZ A H0 Qm ls2 hC hc1 hc2 hW (hl2 ▸ lvr_st1 (x := .int x) h2) hR)
theorem G_iinc {Y : MY} {d pc : Nat} {l st : List Value} {n kc ks : Nat} {hp : HP} {Q : Nat → HP → Prop} {i : Nat} {z : Int} {x y : Int32} {l2 : List Value} (hd : decode Y.2.1 pc = .ok (.iinc i z, 3)) (hv : l[i]? = some (.int x)) (hy : x + Int32.ofInt z = y) (hn : i < Y.2.2.1) (hl2 : stI l i (.int y) = l2) (kk : GX Y d (pc + 3) l2 st n hp kc ks Q) : GX Y d pc l st n hp kc ks Q := by
  intro p lch e R s m args below meth c H locs cells slots ad base D cI cZ A H0 Qm ls hC hc1 hc2 hW hl hR
  have h0 := alf_get (ad := ad) l 0 i _ hv (by intro h; cases h)
  rw [Nat.zero_add] at h0
  obtain ⟨k, hk⟩ := List.getElem?_of_mem h0
  exact lv_iinc hC.1 hC.2.1 hd hl hk hy hn rfl (fun ls2 h2 => kk p lch e R s m args below meth c H locs cells slots ad base D cI cZ A H0 Qm ls2 hC hc1 hc2 hW (hl2 ▸ lvr_st1 (x := .int y) h2) hR)
theorem G_eqi {Y : MY} {d pc : Nat} {l st : List Value} {n kc ks : Nat} {hp : HP} {Q : Nat → HP → Prop} {x y : Int32} (h : x = y) (kk : GX Y d pc l (.int y :: st) n hp kc ks Q) : GX Y d pc l (.int x :: st) n hp kc ks Q := h ▸ kk
theorem G_get {Y : MY} {d pc : Nat} {l st : List Value} {n kc ks : Nat} {hp : HP} {Q : Nat → HP → Prop} {index ci k a : Nat} {ty : FieldType} {fs : List Value} {v : Value} (hd : decode Y.2.1 pc = .ok (.getfield index, 3)) (hF : FLK Y.1 index ci k ty) (ha : LVn a n) (hk : hp a = .inr (ci, fs)) (hv : fs[k]? = some v) (kk : GX Y d (pc + 3) l (v :: st) n hp kc ks Q) : GX Y d pc l (.ref a :: st) n hp kc ks Q := by
  intro p lch e R s m args below meth c H locs cells slots ad base D cI cZ A H0 Qm ls hC hc1 hc2 hW hl hR
  obtain ⟨C, T, N, ty, ⟨hc, hin, -, -⟩, hkN, hlink, hTC, -⟩ := hF
  exact va_get hC.1 hC.2.1 hC.2.2.2.2.1 hin hC.2.2.2.1 hW.1 hW.2.1 (wpos a) (fs := fs.map (cv ad)) (by rw [mkN_get ha, hk]; rfl) hc k hkN (hC.2.2.2.2.1 _ hlink) (fun x h => by rw [hTC] at h; exact h) (v := cv ad v) (by rw [List.getElem?_map, hv]; rfl) hd (kk p lch e R s m args below meth c H locs cells slots ad base D cI cZ A H0 Qm ls hC hc1 hc2 hW hl hR)
theorem G_putF {Y : MY} {d pc : Nat} {l st : List Value} {n kc ks : Nat} {hp : HP} {Q : Nat → HP → Prop} {L L2 : List (Nat × AC)} {index ci k a : Nat} {ty : FieldType} {fs fs2 : List Value} {v : Value} (hd : decode Y.2.1 pc = .ok (.putfield index, 3)) (hF : FLK Y.1 index ci k ty) (hf : FLF ci k Y.1) (ha : LVn a n) (hk : hov hp L a = .inr (ci, fs)) (hnf : ∀ ad : Nat → Nat, narrow ty (cv ad v) = cv ad v ∧ fits ty (cv ad v) = true) (hkl : k < fs.length) (hfs : fs.set k v = fs2) (hL : ins L a (.inr (ci, fs2)) = L2) (kk : GX Y d (pc + 3) l st n (hov hp L2) kc ks Q) : GX Y d pc l (v :: .ref a :: st) n (hov hp L) kc ks Q := by
  intro p lch e R s m args below meth c H locs cells slots ad base D cI cZ A H0 Qm ls hC hc1 hc2 hW hl hR
  subst hfs
  refine wg_putF hC.1 hC.2.1 hC.2.2.2.2.1 hC.2.2.2.1 hF hf hC.2.2.2.2.2.2.2 ha hk (hnf ad) hkl hd hW (fun H1 locs1 hW1 => ?_)
  rw [← hov_ins, hL] at hW1
  exact kk p lch e R s m args below meth c H1 locs1 cells slots ad base D cI cZ A H0 Qm ls hC hc1 hc2 hW1 hl hR
theorem G_put {Y : MY} {d pc : Nat} {l st : List Value} {n kc ks : Nat} {hp : HP} {Q : Nat → HP → Prop} {L L2 : List (Nat × AC)} {index ci k a : Nat} {ty : FieldType} {fs fs2 : List Value} {v : Value} (hd : decode Y.2.1 pc = .ok (.putfield index, 3)) (hF : FLK Y.1 index ci k ty) (hf : FLP ci k) (ha : LVn a n) (hk : hov hp L a = .inr (ci, fs)) (hnf : ∀ ad : Nat → Nat, narrow ty (cv ad v) = cv ad v ∧ fits ty (cv ad v) = true) (hkl : k < fs.length) (hfs : fs.set k v = fs2) (hL : ins L a (.inr (ci, fs2)) = L2) (kk : GX Y d (pc + 3) l st n (hov hp L2) kc ks Q) : GX Y d pc l (v :: .ref a :: st) n (hov hp L) kc ks Q := by
  intro p lch e R s m args below meth c H locs cells slots ad base D cI cZ A H0 Qm ls hC hc1 hc2 hW hl hR
  subst hfs
  refine wg_put hC.1 hC.2.1 hC.2.2.2.2.1 hC.2.2.2.1 hF hf ha hk (hnf ad) hkl hd hW (fun H1 locs1 hW1 => ?_)
  rw [← hov_ins, hL] at hW1
  exact kk p lch e R s m args below meth c H1 locs1 cells slots ad base D cI cZ A H0 Qm ls hC hc1 hc2 hW1 hl hR
theorem G_iast {Y : MY} {d pc : Nat} {l st : List Value} {n kc ks : Nat} {hp : HP} {Q : Nat → HP → Prop} {L L2 : List (Nat × AC)} {a N j : Nat} {f f2 : Nat → Int32} {x : Int32} (hd : decode Y.2.1 pc = .ok (.iastore, 1)) (ha : LVn a n) (hk : hov hp L a = .inl (false, N, f)) (hj : j < N) (hN : N < 2 ^ 31) (hf : upd f j x = f2) (hL : ins L a (.inl (false, N, f2)) = L2) (kk : GX Y d (pc + 1) l st n (hov hp L2) kc ks Q) : GX Y d pc l (.int x :: .int (nI j) :: .ref a :: st) n (hov hp L) kc ks Q := by
  intro p lch e R s m args below meth c H locs cells slots ad base D cI cZ A H0 Qm ls hC hc1 hc2 hW hl hR
  subst hf
  refine wg_iast hC.1 hC.2.1 ha hk hj hN hd hW (fun H1 locs1 hW1 => ?_)
  rw [← hov_ins, hL] at hW1
  exact kk p lch e R s m args below meth c H1 locs1 cells slots ad base D cI cZ A H0 Qm ls hC hc1 hc2 hW1 hl hR
theorem G_new {Y : MY} {d pc : Nat} {l st : List Value} {n kc ks : Nat} {hp : HP} {Q : Nat → HP → Prop} {L L2 : List (Nat × AC)} {index ci N kn : Nat} {C : String} {T : u_T} {ty : Nat → FieldType} {fs : List Value} (hd : decode Y.2.1 pc = .ok (.new index, 3)) (hcls : CLS ci C T N ty) (hcl : Cond.classLink Y.1 index C ∈ gtbl) (hinst : Cond.instantiable C N ∈ gtbl) (hini : Cond.initialized C ∈ gtbl) (hfs : ∀ ad : Nat → Nat, ∀ j, j < N → defaultValue (ty j) = vp_V (fs.map (cv ad)) j) (hnk : n < 48 ∧ wunp n = kn) (hL : ins L kn (.inr (ci, fs)) = L2) (kk : GX Y d (pc + 3) l (.ref kn :: st) (n + 1) (hov hp L2) kc ks Q) : GX Y d pc l st n (hov hp L) (kc + 1) (ks + N) Q := by
  intro p lch e R s m args below meth c H locs cells slots ad base D cI cZ A H0 Qm ls hC hc1 hc2 hW hl hR
  refine wg_new hC.1 hC.2.1 hC.2.2.2.2.1 hC.2.2.2.1 hcls hcl hinst hini (hfs ad) (by omega) (by omega) hd hW hnk (fun H1 hW1 => ?_)
  rw [← hov_ins, hL] at hW1
  refine kk p lch e R s m args below meth c H1 locs (cells + 1) (slots + N) ad base D cI cZ A H0 Qm ls hC (by omega) (by omega) hW1 hl (fun n' hp' H' locs' pc' ls' hq hw hdd => ?_)
  have h9 := hR n' hp' H' locs' pc' ls' hq hw hdd
  rw [show cells + (kc + 1) = cells + 1 + kc by omega, show slots + (ks + N) = slots + N + ks by omega] at h9
  exact h9
theorem G_newai {Y : MY} {d pc : Nat} {l st : List Value} {n kc ks : Nat} {hp : HP} {Q : Nat → HP → Prop} {L L2 : List (Nat × AC)} {N kn : Nat} {x : Int32} (hd : decode Y.2.1 pc = .ok (.newarray .int, 2)) (harr : Cond.arrayClass .int ∈ gtbl) (hx0 : ¬ x < 0) (hN : x.toNatClampNeg = N) (hbytes : N * 4 ≤ 536870912) (hnk : n < 48 ∧ wunp n = kn) (hL : ins L kn (.inl (false, N, fun _ => 0)) = L2) (kk : GX Y d (pc + 2) l (.ref kn :: st) (n + 1) (hov hp L2) kc ks Q) : GX Y d pc l (.int x :: st) n (hov hp L) (kc + 1) (ks + N) Q := by
  intro p lch e R s m args below meth c H locs cells slots ad base D cI cZ A H0 Qm ls hC hc1 hc2 hW hl hR
  refine wg_newai hC.1 hC.2.1 hC.2.2.2.2.1 harr hx0 hN hbytes (by omega) (by omega) hd hW hnk (fun H1 hW1 => ?_)
  rw [← hov_ins, hL] at hW1
  refine kk p lch e R s m args below meth c H1 locs (cells + 1) (slots + N) ad base D cI cZ A H0 Qm ls hC (by omega) (by omega) hW1 hl (fun n' hp' H' locs' pc' ls' hq hw hdd => ?_)
  have h9 := hR n' hp' H' locs' pc' ls' hq hw hdd
  rw [show cells + (kc + 1) = cells + 1 + kc by omega, show slots + (ks + N) = slots + N + ks by omega] at h9
  exact h9
theorem G_newaz {Y : MY} {d pc : Nat} {l st : List Value} {n kc ks : Nat} {hp : HP} {Q : Nat → HP → Prop} {L L2 : List (Nat × AC)} {N kn : Nat} {x : Int32} (hd : decode Y.2.1 pc = .ok (.newarray .boolean, 2)) (harr : Cond.arrayClass .boolean ∈ gtbl) (hx0 : ¬ x < 0) (hN : x.toNatClampNeg = N) (hbytes : N * 4 ≤ 536870912) (hnk : n < 48 ∧ wunp n = kn) (hL : ins L kn (.inl (true, N, fun _ => 0)) = L2) (kk : GX Y d (pc + 2) l (.ref kn :: st) (n + 1) (hov hp L2) kc ks Q) : GX Y d pc l (.int x :: st) n (hov hp L) (kc + 1) (ks + N) Q := by
  intro p lch e R s m args below meth c H locs cells slots ad base D cI cZ A H0 Qm ls hC hc1 hc2 hW hl hR
  refine wg_newaz hC.1 hC.2.1 hC.2.2.2.2.1 harr hx0 hN hbytes (by omega) (by omega) hd hW hnk (fun H1 hW1 => ?_)
  rw [← hov_ins, hL] at hW1
  refine kk p lch e R s m args below meth c H1 locs (cells + 1) (slots + N) ad base D cI cZ A H0 Qm ls hC (by omega) (by omega) hW1 hl (fun n' hp' H' locs' pc' ls' hq hw hdd => ?_)
  have h9 := hR n' hp' H' locs' pc' ls' hq hw hdd
  rw [show cells + (kc + 1) = cells + 1 + kc by omega, show slots + (ks + N) = slots + N + ks by omega] at h9
  exact h9
def oin : Prop := Cond.instanceMethod objectInit ∈ gtbl ∧ Cond.code objectInit ⟨#[0xb1]⟩ 1 none ∈ gtbl
theorem G_oinit {Y : MY} {d pc : Nat} {l st : List Value} {n kc ks : Nat} {hp : HP} {Q : Nat → HP → Prop} {a index : Nat} (hd : decode Y.2.1 pc = .ok (.invokespecial index, 3)) (hlk : Cond.methodLink Y.1 index objectInit ∈ gtbl) (ho : oin) (hroom : (st.map fun v => v.category).sum ≤ 8) (kk : GX Y (d + 1) (pc + 3) l st n hp kc ks Q) : GX Y (d + 1) pc l (.ref a :: st) n hp kc ks Q := by
  intro p lch e R s m args below meth c H locs cells slots ad base D cI cZ A H0 Qm ls hC hc1 hc2 hW hl hR
  have h1 := hC.2.2.2.2.2.1
  have h2 := hC.2.2.2.2.2.2.1
  refine W.objInit (rest := st.map (cv ad)) (a := ad a) hC.1 hC.2.1 hC.2.2.2.1 (hC.2.2.2.2.1 _ hlk) (hC.2.2.2.2.1 _ ho.1) (hC.2.2.2.2.1 _ ho.2) rfl (hl.1.trans hC.2.2.1.symm) rfl hd (by omega) (by
    have h3 : ((st.map (cv ad)).map fun v => v.category).sum ≤ 8 := by rw [sum_cat]; exact hroom
    have h4 := lv_room (m := m) (pc := pc) (ls := ls) (rest := (Value.ref a :: st).map (cv ad)) h3
    omega) ?_
  exact W.eq (g2 := F0 m (pc + 3) ls (st.map (cv ad))) rfl (kk p lch e R s m args below meth c H locs cells slots ad base D cI cZ A H0 Qm ls hC hc1 hc2 hW hl hR)
def GC (Y : MY) (d : Nat) (l : List Value) (n : Nat) (L0 : List (Nat × AC)) (kc ks n2 : Nat) (M : List (Nat × AC)) : Prop := ∀ hp : HP, GX Y d 0 l [] n (hov hp L0) kc ks (fun n' h => n' = n2 ∧ h = hov hp M)
theorem G_ctor {Y : MY} {d pc : Nat} {l st : List Value} {n kc ks : Nat} {hp : HP} {Q : Nat → HP → Prop} {L L2 : List (Nat × AC)} {index k n2 jc js : Nat} {y : MethodName} {Y' : MY} {L0 M : List (Nat × AC)} (hd : decode Y.2.1 pc = .ok (.invokespecial index, 3)) (hM : MTI y Y') (hlk : Cond.methodLink Y.1 index y ∈ gtbl) (hE : GC Y' d (ent Y'.2.2.1 [.ref k]) n L0 jc js n2 M) (h0 : mrg L L0 = L) (hm : mrg L M = L2) (hroom : (st.map fun v => v.category).sum ≤ 8) (kk : GX Y (d + 1) (pc + 3) l st n2 (hov hp L2) kc ks Q) : GX Y (d + 1) pc l (.ref k :: st) n (hov hp L) (kc + jc) (ks + js) Q := by
  intro p lch e R s m args below meth c H locs cells slots ad base D cI cZ A H0 Qm ls hC hc1 hc2 hW hl hR
  have hE1 := hE (hov hp L)
  rw [hov_mrg, h0] at hE1
  refine wg_ctor (Y' := Y') (d := d) hC.1 hC.2.1 hC.2.2.1 hC.2.2.2.2.1 hC.2.2.2.1 hM hlk hE1 ⟨hC.2.2.2.2.2.1, hC.2.2.2.2.2.2.1⟩ hl.1 (by rw [sum_cat]; exact hroom) hd ⟨by omega, by omega⟩ hW (fun n' hp' H1 locs1 hq hW1 => ?_)
  obtain ⟨e1, e2⟩ := hq
  subst e1
  subst e2
  rw [hov_mrg, hm] at hW1
  refine kk p lch e R s m args below meth c H1 locs1 (cells + jc) (slots + js) ad base D cI cZ A H0 Qm ls hC (by omega) (by omega) hW1 hl (fun n' hp' H' locs' pc' ls' hq hw hdd => ?_)
  have h9 := hR n' hp' H' locs' pc' ls' hq hw hdd
  rw [show cells + (kc + jc) = cells + jc + kc by omega, show slots + (ks + js) = slots + js + ks by omega] at h9
  exact h9
theorem G_ret {Y : MY} {d pc : Nat} {l : List Value} {n : Nat} {hp : HP} {L L2 : List (Nat × AC)} {n2 : Nat} (hd : decode Y.2.1 pc = .ok (.return_, 1)) (hn : n = n2) (hL : L = L2) : GX Y d pc l [] n (hov hp L) 0 0 (fun n' h => n' = n2 ∧ h = hov hp L2) := by
  intro p lch e R s m args below meth c H locs cells slots ad base D cI cZ A H0 Qm ls hC hc1 hc2 hW hl hR
  subst hn
  subst hL
  exact hR n (hov hp L) H locs pc ls ⟨rfl, rfl⟩ hW hd
