theorem entL_get (ad : Nat → Nat) : ∀ (vs : List Value) (j i : Nat) (v : Value), (entL vs)[i]? = some v → v ≠ .null → (j + i, cv ad v) ∈ lv_args j (vs.map (cv ad))
  | [], j, i, v, h, hv => by simp [entL] at h
  | w :: vs, j, i, v, h, hv => by
    rw [List.map_cons, lv_args, cv_cat]
    by_cases hc : w.category = 2
    · rw [entL, if_pos hc] at h
      rw [if_pos hc]
      match i, h with
      | 0, h =>
        simp at h
        subst h
        exact List.mem_cons_self
      | 1, h => simp at h; exact absurd h.symm hv
      | i + 2, h =>
        rw [List.getElem?_cons_succ, List.getElem?_cons_succ] at h
        have := entL_get ad vs (j + 2) i v h hv
        rw [show j + (i + 2) = j + 2 + i by omega]
        exact List.mem_cons_of_mem _ this
    · rw [entL, if_neg hc] at h
      rw [if_neg hc]
      match i, h with
      | 0, h =>
        simp at h
        subst h
        exact List.mem_cons_self
      | i + 1, h =>
        rw [List.getElem?_cons_succ] at h
        have := entL_get ad vs (j + 1) i v h hv
        rw [show j + (i + 1) = j + 1 + i by omega]
        exact List.mem_cons_of_mem _ this
theorem ent_get (ad : Nat → Nat) (n : Nat) (vs : List Value) (i : Nat) (v : Value) (h : (ent n vs)[i]? = some v) (hv : v ≠ .null) : (i, cv ad v) ∈ lv_args 0 (vs.map (cv ad)) := by
  have h2 : (entL vs)[i]? = some v := by
    unfold ent at h
    by_cases hi : i < (entL vs).length
    · rw [List.getElem?_append_left hi] at h
      exact h
    · rw [List.getElem?_append_right (by omega)] at h
      exact absurd (List.eq_of_mem_replicate (List.mem_of_getElem? h)) hv
  have := entL_get ad vs 0 i v h2 hv
  simpa using this
theorem sl_len (ad : Nat → Nat) : ∀ vs : List Value, (lg_sl (vs.map (cv ad))).length = (lg_sl vs).length
  | [] => rfl
  | v :: vs => by
    have := sl_len ad vs
    simp only [lg_sl, List.map_cons, List.flatMap_cons, List.length_append, cv_cat] at this ⊢
    rw [this]
    congr 1
    by_cases h : v.category = 2 <;> simp [h]
theorem sum_cat (ad : Nat → Nat) : ∀ vs : List Value, ((vs.map (cv ad)).map fun v => v.category).sum = (vs.map fun v => v.category).sum
  | [] => rfl
  | v :: vs => by
    simp only [List.map_cons, List.sum_cons, cv_cat, sum_cat ad vs]
theorem ent_lvr {ad : Nat → Nat} {n : Nat} {vs : List Value} (h : (lg_sl vs).length ≤ n) : lvr ad ((lg_sl (vs.map (cv ad)) ++ List.replicate (n - (lg_sl (vs.map (cv ad))).length) Slot.unset).toArray) n (ent n vs) := by
  have h0 := lv_entry (vs.map (cv ad)) (n := n) (by rw [sl_len]; exact h)
  refine ⟨h0.1, h0.2.1, fun q hq => ?_⟩
  obtain ⟨k, v, h1, h2, rfl⟩ := alf_mem _ _ _ hq
  rw [Nat.zero_add]
  exact h0.2.2 _ (ent_get ad n vs k v h1 h2)
/-! a method's contract out of E, and the calls -/
def rmd (d : Nat) : Room := { frames := d, cells := 0, slots := 0, locals := 40 * d }
def wsd (y : MethodName) (Y : MY) : List Cond := .code y Y.2.1 Y.2.2.1 Y.2.2.2.1 :: gtbl
def BW (D : va_G) (cI cZ : ClassId) (ad : Nat → Nat) (hp : HP) (sz : Nat) (U : State) : Prop :=
  U.heap.size = sz ∧ va_P D vwCl (mkW ad cI cZ hp) U.heap ∧ va_K D vwCl [(cI, .int), (cZ, .boolean)] U ∧ va_D (fun _ => True) (mkW ad cI cZ hp) ∧ (∀ q ∈ nests, va_Nw (.methodLinkNest q.1 q.2.1 q.2.2.1 q.2.2.2) U)
def QcE (D : va_G) (cI cZ : ClassId) (ad : Nat → Nat) (hp : HP) (sz : Nat) (Q : Option Value → HP → Prop) : Array Value → State → Outcome → State → Prop := fun _ st oc t =>
  (∃ (v : Option Value) (hp' : HP), oc = .returned (v.map (cv ad)) ∧ Q v hp' ∧ va_P D vwCl (mkW ad cI cZ hp') t.heap) ∧ va_F (va_A (mkW ad cI cZ hp) sz) st t
theorem BW_blind {D : va_G} {cI cZ : ClassId} {ad : Nat → Nat} {hp : HP} {sz : Nat} {av : List Value} : FrameBlind (va_Pc av (BW D cI cZ ad hp sz)) := by
  intro a U g mk q
  obtain ⟨q0, q1, q2, q3, q4, q5⟩ := q
  exact ⟨q0, q1, q2, va_K.moved (u := U) (U := U.calling g mk a) (Vm.Alike.refl U.vm) q3, q4, fun w hw => va_Nw.same rfl (u := U) rfl (q5 w hw)⟩
/-- a contract out of W, of a method in whose place no entry of the natives' table runs, whatever its class's name -/
theorem wk_ofWF {l : Launch} {y : MethodName} {ws ws' : List Cond} {rm : Room} {Pc : Array Value → State → Prop} {Qc : Array Value → State → Outcome → State → Prop} {mc ms : Nat} {free : Addr → Prop} {cc : ByteArray} {maxL : Nat} {ret : Option FieldType}
    (hy : plainFor y = true) (hw : ws = Cond.code y cc maxL ret :: ws')
    (body : ∀ p e s m args below meth c s₁, BodyLoose p l y (headSpec ws rm) cc maxL ret e s m args below meth c s₁ → c.maxLocals = maxL → Pc args s →
      W p l e (headSpec ws rm).room s m args below meth c s.heap [] 0 0 (MQ below Qc args s mc ms free) (entryFrame m args maxL)) : Met l y ws rm Pc Qc mc ms free := by
  refine MetFree.of_bodySF (code := cc) (maxLocals := maxL) (ret := ret) hy (fun args s m h hn => ?_) (fun p e s m args below meth c s₁ B hml hP _ => ?_)
  · obtain ⟨meth, c, h1, h2, h3, h4, h5, h6, -, -⟩ := Cond.code_spec hn (atoms_spec (ws := ws) h _ (by rw [hw]; exact List.mem_cons_self))
    exact ⟨meth, c, h1, h2, h3, h4, h5, h6⟩
  · obtain ⟨t, a1, o, b1, b2, b3⟩ := body p e s m args below meth c s₁ B hml hP s₁ (by rw [B.state]; rfl) (Stand.of_body B)
    exact ⟨t, o, a1, b1, b2, b3.1, b3.2⟩
set_option maxHeartbeats 1000000 in
theorem met_of_E {l : Launch} {y : MethodName} {Y : MY} {d : Nat} {As : List Value} {hp : HP} {Q : Option Value → HP → Prop} (hpl : plainFor y = true) (hY : Y.1 = y.cls) (hsc : Y.2.2.2.2 = none) (hfit : (lg_sl As).length ≤ Y.2.2.1) (hE : E Y d 0 (ent Y.2.2.1 As) [] hp Q) (D : va_G) (cI cZ : ClassId) (ad : Nat → Nat) (sz : Nat) :
    Met l y (wsd y Y) (rmd d) (va_Pc (As.map (cv ad)) (BW D cI cZ ad hp sz)) (QcE D cI cZ ad hp sz Q) 0 0 (va_A (mkW ad cI cZ hp) sz) := by
  refine wk_ofWF (cc := Y.2.1) (maxL := Y.2.2.1) (ret := Y.2.2.2.1) hpl rfl ?_
  intro p e s m args below meth c s₁ B hml hv
  obtain ⟨rfl, hsz, hP, hK, hD0, hN⟩ := hv
  have hx := B.exec
  have hb := B.bytes
  have hr := B.returns
  have hts := atoms_spec (ws := wsd y Y) B.pre
  have hown : s.vm.findClass Y.1 = some m.cls := by rw [hY]; exact findClass_of_methodNamed B.named
  have hlocks := B.notSynchronized
  subst hsz
  have hD := hD0.self (sz := s.heap.size)
  have hS : va_S (va_A (mkW ad cI cZ hp) s.heap.size) s.heap s.heap [] := va_S.rf
  rw [lg_entry_eq]
  refine hE p l e (rmd d) s m _ below meth c s.heap [] 0 0 ad D cI cZ (va_A (mkW ad cI cZ hp) s.heap.size) s.heap _ _ ⟨hx, hb, hml, hr, hlocks, hown, fun w hw => hts w (List.mem_cons_of_mem _ hw), hN, Nat.le_refl _, Nat.le_refl _, Nat.le_refl _, Nat.le_refl _⟩ ⟨hK, hP, hD, hS, fun q h => Or.inr h, by rw [hsc]; trivial⟩ (ent_lvr hfit) ?_
  intro v hp' H' locs' pc' ls' hQ hW hT
  obtain ⟨hK2, hP2, hD2, hS2, -⟩ := hW
  rcases hT with ⟨x, ty, rfl, hd, h1, h2⟩ | ⟨x, rfl, hd, h1⟩ | ⟨rfl, hd, h1⟩
  · exact W.zret (v := x) hx hb (hr.trans h1) h2 (fun t ht hWm => ⟨⟨some (.int x), hp', rfl, hQ, by rw [ht]; exact hP2⟩, hS2.F ht⟩) hS2.2.2 hd hlocks
  · exact W.lret (v := x) hx hb (hr.trans h1) (fun t ht hWm => ⟨⟨some (.long x), hp', rfl, hQ, by rw [ht]; exact hP2⟩, hS2.F ht⟩) hS2.2.2 hd hlocks
  · exact W.vret hx hb (hr.trans h1) (fun t ht hWm => ⟨⟨none, hp', rfl, hQ, by rw [ht]; exact hP2⟩, hS2.F ht⟩) hS2.2.2 hd hlocks
/-- what the tables say of a method that is called -/
def MTH (y : MethodName) (Y : MY) (n : Nat) : Prop := Cond.initialized y.cls ∈ gtbl ∧ Cond.code y Y.2.1 Y.2.2.1 Y.2.2.2.1 ∈ gtbl ∧ (y.cls ≠ "java/lang/invoke/MethodHandle" ∧ y.cls ≠ "java/lang/invoke/VarHandle" ∧ (parseMethodDescriptor y.desc).map (fun d => d.parameters.length) = some n) ∧ plainFor y = true ∧ Y.1 = y.cls ∧ Y.2.2.2.2 = none ∧ Y.2.2.1 ≤ 21
theorem good_wsd {y : MethodName} {Y : MY} {n : Nat} (h : MTH y Y n) : GoodIn gtbl (wsd y Y) := by
  intro w hw
  rcases List.mem_cons.mp hw with rfl | hw
  · exact ⟨h.2.1, gtbl_good h.2.1⟩
  · exact ⟨hw, gtbl_good hw⟩

/-- behind a call, its own world whole -/
theorem E_goon {p : Program} {lch : Launch} {e : Env} {R : Room} {s : State} {m : MethodId} {args : Array Value} {below : List Frame} {meth : Method} {c : Code} {H : Heap} {locs : List Loc} {cells slots pc : Nat} {ad : Nat → Nat} {D : va_G} {cI cZ : ClassId} {A : Nat → Prop} {H0 : Heap} {Qm : State → Prop} {ls : Array Slot} {Y : MY} {hp : HP} {a : Array Value} {st0 rest : List Value} {Q1 : Option Value → HP → Prop}
    (hr : va_Run p lch e R s m args below meth c H locs cells slots 0 0 (F0 m pc ls st0) rest (QcE D cI cZ ad hp H.size Q1 a) (va_A (mkW ad cI cZ hp) H.size)) (hW : WLD Y ad D cI cZ A H0 s hp H locs)
    (kk : ∀ (v : Option Value) (hp' : HP) (H1 : Heap) (locs1 : List Loc), Q1 v hp' → WLD Y ad D cI cZ A H0 s hp' H1 locs1 → W p lch e R s m args below meth c H1 locs1 cells slots Qm (F0 m (pc + 3) ls ((v.map (cv ad)).toList ++ rest))) : W p lch e R s m args below meth c H locs cells slots Qm (F0 m pc ls st0) := by
  obtain ⟨hK, hP, hD, hS, hA, hX⟩ := hW
  intro T hT X
  obtain ⟨v, st₀, t, T', L, h0, X', hL, e1, e2, ⟨⟨v', hp', hv, hq, hp1⟩, hz, hk⟩, st⟩ := hr T hT X
  cases hv
  rw [h0] at hz hk
  have hf : ∀ q, va_A (mkW ad cI cZ hp) H.size q → A q := by
    intro q h
    rcases h with ⟨k, e', h⟩ | h
    · exact hD.2 k _ h
    · exact hA q (Nat.le_trans hS.1 h)
  obtain ⟨t2, a1, b1⟩ := kk v' hp' T'.heap (locs ++ L) hq ⟨hK, by rw [e1]; exact hp1, mkW_D hD, ⟨Nat.le_trans hS.1 (by rw [e1]; exact hz), fun q h1 h2 => by rw [e1, hk q (Nat.lt_of_lt_of_le h1 hS.1) (fun z => h2 (hf q z))]; exact hS.2.1 q h1 h2, fun q hq => by
      rcases List.mem_append.mp hq with h | h
      · exact hS.2.2 q h
      · exact hf _ (hL q h)⟩, hA, hX⟩ T' rfl X'
  exact ⟨t2, st t2 a1, b1⟩

set_option maxHeartbeats 1000000 in
theorem E_callS {Y Y' : MY} {d pc n index : Nat} {l l' st As : List Value} {hp : HP} {Q Q' : Option Value → HP → Prop} {y : MethodName}  (hd : decode Y.2.1 pc = .ok (.invokestatic index, 3)) (hlk : Cond.methodLink Y.1 index y ∈ gtbl) (hstat : Cond.static y ∈ gtbl) (hM : MTH y Y' n) (hn : As.length = n) (hent : ent Y'.2.2.1 As = l') (hfit : (lg_sl As).length ≤ Y'.2.2.1) (hCT : E Y' d 0 l' [] hp Q') (hroom : (st.map fun v => v.category).sum ≤ 8) (kk : ∀ v hp', Q' v hp' → E Y (d + 1) (pc + 3) l (v.toList ++ st) hp' Q) : E Y (d + 1) pc l (As.reverse ++ st) hp Q := by
  intro p lch e R s m args below meth c H locs cells slots ad D cI cZ A H0 Qm ls hC hW hl hR
  subst hent
  obtain ⟨hini, hcode, hdd, hpl, hY1, hsc, hml⟩ := id hM
  have hMet := met_of_E (l := lch) (y := y) hpl hY1 hsc hfit hCT D cI cZ ad H.size
  have hts : ∀ w ∈ gtbl, w.before args s = true := hC.2.2.2.2.2.2.1
  have hRm : (rmd d).frames + 1 ≤ R.frames ∧ 8 + (Y'.2.2.1 + 11) + (rmd d).locals ≤ R.locals := by
    have h1 := hC.2.2.2.2.2.2.2.2.1
    have h2 := hC.2.2.2.2.2.2.2.2.2.1
    simp only [rmd]
    omega
  have hBl : PreS s H (va_Pc ((As).map (cv ad)) (BW D cI cZ ad hp H.size)) ((As).map (cv ad)) := ⟨BW_blind, fun U hU hWm => ⟨rfl, by rw [hU], by rw [hU]; exact hW.2.1, va_K.moved hWm.alike hW.1, hW.2.2.1.weaken (fun _ _ _ _ => trivial), fun q hq => va_Nw.warmM hWm (hC.2.2.2.2.2.2.2.1 q hq)⟩⟩
  have hSt : (((As.reverse ++ st) : List Value).map (cv ad)) = (As.map (cv ad)).reverse ++ st.map (cv ad) := by simp [cv]
  have hfx : CallFix p m c Y.2.1 Y.2.2.1 s args gtbl Y.1 := ⟨hC.1, hC.2.1, hC.2.2.1, hC.2.2.2.2.2.1, hts⟩
  have hcs : cells + 0 ≤ R.cells ∧ slots + 0 ≤ R.slots := ⟨hC.2.2.2.2.2.2.2.2.2.2.1, hC.2.2.2.2.2.2.2.2.2.2.2⟩
  have hrm : ((st.map (cv ad)).map fun v => v.category).sum ≤ 8 := by rw [sum_cat]; exact hroom
  have hRun := va_runS (l := lch) (e := e) (H := H) (below := below) (meth := meth) (locs := locs) (cells := cells) (slots := slots) (As := As.map (cv ad)) (rest := st.map (cv ad)) (g := F0 m pc ls ((As.reverse ++ st).map (cv ad))) (mc := 0) (ms := 0) hfx hMet ⟨callB_of n hts (good_wsd hM) rfl rfl rfl (hts _ hini) (hts _ hlk) hdd hRm, hts _ hstat⟩ hBl rfl (by rw [List.length_map]; exact hn) hl.1 hSt (lv_room hrm) hd hcs
  refine E_goon (rest := st.map (cv ad)) (a := ((As).map (cv ad)).toArray) hRun hW (fun v hp' H1 locs1 hq hW1 => ?_)
  have := kk v hp' hq p lch e R s m args below meth c H1 locs1 cells slots ad D cI cZ A H0 Qm ls hC hW1 hl hR
  cases v <;> exact this

set_option maxHeartbeats 1000000 in
theorem E_callN {Y Y' : MY} {d pc n index : Nat} {l l' st As : List Value} {hp : HP} {Q Q' : Option Value → HP → Prop} {y : MethodName}  (hd : decode Y.2.1 pc = .ok (.invokestatic index, 3)) {host : String} (hlk : (Y.1, index, y, host) ∈ nests) (hstat : Cond.static y ∈ gtbl) (hM : MTH y Y' n) (hn : As.length = n) (hent : ent Y'.2.2.1 As = l') (hfit : (lg_sl As).length ≤ Y'.2.2.1) (hCT : E Y' d 0 l' [] hp Q') (hroom : (st.map fun v => v.category).sum ≤ 8) (kk : ∀ v hp', Q' v hp' → E Y (d + 1) (pc + 3) l (v.toList ++ st) hp' Q) : E Y (d + 1) pc l (As.reverse ++ st) hp Q := by
  intro p lch e R s m args below meth c H locs cells slots ad D cI cZ A H0 Qm ls hC hW hl hR
  subst hent
  obtain ⟨hini, hcode, hdd, hpl, hY1, hsc, hml⟩ := id hM
  have hMet := met_of_E (l := lch) (y := y) hpl hY1 hsc hfit hCT D cI cZ ad H.size
  have hts : ∀ w ∈ gtbl, w.before args s = true := hC.2.2.2.2.2.2.1
  have hRm : (rmd d).frames + 1 ≤ R.frames ∧ 8 + (Y'.2.2.1 + 11) + (rmd d).locals ≤ R.locals := by
    have h1 := hC.2.2.2.2.2.2.2.2.1
    have h2 := hC.2.2.2.2.2.2.2.2.2.1
    simp only [rmd]
    omega
  have hBl : PreS s H (va_Pc ((As).map (cv ad)) (BW D cI cZ ad hp H.size)) ((As).map (cv ad)) := ⟨BW_blind, fun U hU hWm => ⟨rfl, by rw [hU], by rw [hU]; exact hW.2.1, va_K.moved hWm.alike hW.1, hW.2.2.1.weaken (fun _ _ _ _ => trivial), fun q hq => va_Nw.warmM hWm (hC.2.2.2.2.2.2.2.1 q hq)⟩⟩
  have hSt : (((As.reverse ++ st) : List Value).map (cv ad)) = (As.map (cv ad)).reverse ++ st.map (cv ad) := by simp [cv]
  have hfx : CallFix p m c Y.2.1 Y.2.2.1 s args gtbl Y.1 := ⟨hC.1, hC.2.1, hC.2.2.1, hC.2.2.2.2.2.1, hts⟩
  have hcs : cells + 0 ≤ R.cells ∧ slots + 0 ≤ R.slots := ⟨hC.2.2.2.2.2.2.2.2.2.2.1, hC.2.2.2.2.2.2.2.2.2.2.2⟩
  have hrm : ((st.map (cv ad)).map fun v => v.category).sum ≤ 8 := by rw [sum_cat]; exact hroom
  have hRun := va_runSN (l := lch) (e := e) (H := H) (below := below) (meth := meth) (locs := locs) (cells := cells) (slots := slots) (As := As.map (cv ad)) (rest := st.map (cv ad)) (g := F0 m pc ls ((As.reverse ++ st).map (cv ad))) (mc := 0) (ms := 0) hfx hMet ⟨va_cnB n hts (good_wsd hM) rfl rfl rfl (hC.2.2.2.2.2.2.2.1 _ hlk) (hts _ hini) hdd hRm, hts _ hstat, trivial⟩ hBl rfl (by rw [List.length_map]; exact hn) hl.1 hSt (lv_room hrm) hd hcs
  refine E_goon (rest := st.map (cv ad)) (a := ((As).map (cv ad)).toArray) hRun hW (fun v hp' H1 locs1 hq hW1 => ?_)
  have := kk v hp' hq p lch e R s m args below meth c H1 locs1 cells slots ad D cI cZ A H0 Qm ls hC hW1 hl hR
  cases v <;> exact this

set_option maxHeartbeats 1000000 in
theorem E_callV {Y Y' : MY} {d pc n index : Nat} {l l' st As : List Value} {hp : HP} {Q Q' : Option Value → HP → Prop} {y : MethodName} {a ci N : Nat} {fs : List Value} {T : u_T} (hd : decode Y.2.1 pc = .ok (.invokevirtual index, 3)) (hlk : Cond.methodLink Y.1 index y ∈ gtbl) (hinst : Cond.instanceMethod y ∈ gtbl) (hsel : Cond.selects y.cls y y ∈ gtbl) (ha : LV a) (hk : hp a = .inr (ci, fs)) (hcl : vwCl[ci]? = some (y.cls, T, N)) (hM : MTH y Y' n) (hn : As.length = n) (hent : ent Y'.2.2.1 (Value.ref a :: As) = l') (hfit : (lg_sl (Value.ref a :: As)).length ≤ Y'.2.2.1) (hCT : E Y' d 0 l' [] hp Q') (hroom : (st.map fun v => v.category).sum ≤ 8) (kk : ∀ v hp', Q' v hp' → E Y (d + 1) (pc + 3) l (v.toList ++ st) hp' Q) : E Y (d + 1) pc l (As.reverse ++ Value.ref a :: st) hp Q := by
  intro p lch e R s m args below meth c H locs cells slots ad D cI cZ A H0 Qm ls hC hW hl hR
  subst hent
  obtain ⟨hini, hcode, hdd, hpl, hY1, hsc, hml⟩ := id hM
  have hMet := met_of_E (l := lch) (y := y) hpl hY1 hsc hfit hCT D cI cZ ad H.size
  have hts : ∀ w ∈ gtbl, w.before args s = true := hC.2.2.2.2.2.2.1
  have hRm : (rmd d).frames + 1 ≤ R.frames ∧ 8 + (Y'.2.2.1 + 11) + (rmd d).locals ≤ R.locals := by
    have h1 := hC.2.2.2.2.2.2.2.2.1
    have h2 := hC.2.2.2.2.2.2.2.2.2.1
    simp only [rmd]
    omega
  have hBl : PreS s H (va_Pc (((Value.ref a :: As)).map (cv ad)) (BW D cI cZ ad hp H.size)) (((Value.ref a :: As)).map (cv ad)) := ⟨BW_blind, fun U hU hWm => ⟨rfl, by rw [hU], by rw [hU]; exact hW.2.1, va_K.moved hWm.alike hW.1, hW.2.2.1.weaken (fun _ _ _ _ => trivial), fun q hq => va_Nw.warmM hWm (hC.2.2.2.2.2.2.2.1 q hq)⟩⟩
  have hSt : (((As.reverse ++ Value.ref a :: st) : List Value).map (cv ad)) = (As.map (cv ad)).reverse ++ Value.ref (ad a) :: st.map (cv ad) := by simp [cv]
  have hfx : CallFix p m c Y.2.1 Y.2.2.1 s args gtbl Y.1 := ⟨hC.1, hC.2.1, hC.2.2.1, hC.2.2.2.2.2.1, hts⟩
  have hcs : cells + 0 ≤ R.cells ∧ slots + 0 ≤ R.slots := ⟨hC.2.2.2.2.2.2.2.2.2.2.1, hC.2.2.2.2.2.2.2.2.2.2.2⟩
  have hrm : ((st.map (cv ad)).map fun v => v.category).sum ≤ 8 := by rw [sum_cat]; exact hroom
  have hPV : PreV s H y.cls (ad a) (va_Pc ((Value.ref a :: As).map (cv ad)) (BW D cI cZ ad hp H.size)) (As.map (cv ad)) := ⟨hBl.1, va_recv hW.1 hW.2.1 (ci := ci) (q0 := wpos a) (fs := fs.map (cv ad)) hcl (by rw [mkW_get ha, hk]; rfl), hBl.2⟩
  have hRun := va_runV (l := lch) (e := e) (H := H) (below := below) (meth := meth) (locs := locs) (cells := cells) (slots := slots) (C := y.cls) (b := ad a) (As := As.map (cv ad)) (rest := st.map (cv ad)) (g := F0 m pc ls ((As.reverse ++ Value.ref a :: st).map (cv ad))) (mc := 0) (ms := 0) hfx hMet ⟨callB_of n hts (good_wsd hM) rfl rfl rfl (hts _ hini) (hts _ hlk) hdd hRm, hts _ hinst, hts _ hsel⟩ hPV rfl (by rw [List.length_map]; exact hn) hl.1 hSt (lv_room hrm) hd hcs
  refine E_goon (rest := st.map (cv ad)) (a := (((Value.ref a :: As)).map (cv ad)).toArray) hRun hW (fun v hp' H1 locs1 hq hW1 => ?_)
  have := kk v hp' hq p lch e R s m args below meth c H1 locs1 cells slots ad D cI cZ A H0 Qm ls hC hW1 hl hR
  cases v <;> exact this
