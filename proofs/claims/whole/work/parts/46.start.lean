/-! THE CLAIM OUT OF ONE WALK OF THE LAW'S BODY. Your part is whole_start (and what it stands on); all else here is the same for every law, but numbers. -/
def R_law : String := "TurfHeapsLaw"
def lw_P (b : Addr) (xs : List Int32) (args : Array Value) (s : State) : Prop := args = #[.ref b] ∧ s.IntsAt b xs ∧ xs.length ≤ 448 ∧ (Jvm.Cond.and given_1 narrow_1).before args s = true
def lw_Q (_ : Array Value) (s : State) (o : Outcome) (t : State) : Prop := o = .returned (some (.int 1)) ∧ Framed s o t [] 48 764
def lw_Z (below : List Frame) (a : Array Value) (s : State) : State → Prop := fun t => ∃ o, t.status = .running ∧ Ended t below o ∧ lw_Q a s o t
/-- the law's own end, with 1 on the stack, nothing written that was there before, its room as the claim has it -/
theorem lw_ret {p : Program} {l : Launch} {e : Env} {s : State} {m : MethodId} {below : List Frame} {meth : Method} {c : Code} {b : Nat} (hx : p.tables.exec = Jvm.exec) (hb : c.code = code) (hr : meth.sig.returnType = ret) (hlocks : meth.locks = false) {pc : Nat} {H : Heap} {ls : Array Slot} (hdg : decode code pc = .ok (.ireturn, 1)) : W p l e room_1 s m #[Value.ref b] below meth c H [] 48 764 (lw_Z below #[Value.ref b] s) (F0 m pc ls [.int 1]) := by
  intro T hT X
  obtain ⟨fs, hret, hrun, hended, hW, hframe⟩ := X.leave (v := some (.int 1)) (hlocks := hlocks) (fun h => by rw [hr] at h; cases h)
  have hmeth' : T.vm.method? m = some meth := X.method'
  refine ⟨T.setFrames fs, ?_, .returned (some (.int 1)), hrun, hended, rfl, ⟨_, rfl⟩, hW, hframe⟩
  jvm_step X.here [X.here.top, hx, hb, hdg, hmeth', hr, ret, narrow_b1]
  (try refine ⟨rfl, ?_⟩); (try refine ⟨rfl, ?_⟩)
  first | (intro acts; rw [hret _ acts rfl rfl rfl]) | rw [hret _ _ rfl rfl rfl]
  exact Steps.refl _
/-- what holds at the law's entry: the machine, the code, the tables' words (any of lw_tbl by 'hts w (by decide +kernel)'), the script of L ints xs at the cell b, what the Statement gives of the start (any of its parts by flat_of_before) -/
def lw_At (p : Program) (s : State) (m : MethodId) (meth : Method) (c : Code) (b L : Nat) (xs : Nat → Int32) : Prop :=
  p.tables.exec = Jvm.exec ∧ c.code = code ∧ meth.sig.returnType = ret ∧ c.maxLocals = 4 ∧ s.vm.findClass R_law = some m.cls ∧ (∀ w ∈ lw_tbl, w.before #[Value.ref b] s = true) ∧ va_X b L xs s s.heap ∧ b < s.heap.size ∧ meth.locks = false ∧ (Jvm.Cond.and given_1 narrow_1).before #[Value.ref b] s = true

set_option maxRecDepth 20000 in
theorem top_WC : ([(0, .inr (6, [.ref 1, .ref 5, .ref 7, .ref 10, .ref 18, .ref 26, .ref 31, .ref 35, .ref 37, .int 1])), (1, .inr (0, [.ref 2, .ref 3, .ref 4, .int 0, .int 0, .int 0, .int 2, .int 0])), (2, .inl (false, 6, (fl (-6) 6))), (3, .inl (false, 6, (fun _ => 0))), (4, .inl (false, 6, (fl 5 6))), (5, .inr (3, [.ref 6, .int 0])), (6, .inl (false, 60, (fun _ => 0))), (7, .inr (4, [.ref 8, .ref 9, .int 0])), (8, .inl (false, 8, (fun _ => 0))), (9, .inl (false, 8, (fun _ => 0))), (10, .inr (2, [.ref 11, .ref 15, .int 0])), (11, .inr (0, [.ref 12, .ref 13, .ref 14, .int 0, .int 0, .int 0, .int 2, .int 0])), (12, .inl (false, 6, (fl (-6) 6))), (13, .inl (false, 6, (fun _ => 0))), (14, .inl (false, 6, (fl 5 6))), (15, .inr (4, [.ref 16, .ref 17, .int 0])), (16, .inl (false, 8, (fun _ => 0))), (17, .inl (false, 8, (fun _ => 0))), (18, .inr (2, [.ref 19, .ref 23, .int 0])), (19, .inr (0, [.ref 20, .ref 21, .ref 22, .int 0, .int 0, .int 0, .int 2, .int 0])), (20, .inl (false, 6, (fl (-6) 6))), (21, .inl (false, 6, (fun _ => 0))), (22, .inl (false, 6, (fl 5 6))), (23, .inr (4, [.ref 24, .ref 25, .int 0])), (24, .inl (false, 8, (fun _ => 0))), (25, .inl (false, 8, (fun _ => 0))), (26, .inr (5, [.ref 27, .int 0, .int 0, .int 0, .int 0, .int 0, .int 0])), (27, .inr (0, [.ref 28, .ref 29, .ref 30, .int 0, .int 0, .int 0, .int 2, .int 0])), (28, .inl (false, 6, (fl (-6) 6))), (29, .inl (false, 6, (fun _ => 0))), (30, .inl (false, 6, (fl 5 6))), (31, .inr (1, [.ref 32, .ref 33])), (32, .inl (false, 8, (fun _ => 0))), (33, .inl (false, 8, (fun _ => 0))), (35, .inl (false, 49, (fun _ => 0))), (37, .inl (false, 61, (fun _ => 0)))] : List (Nat × AC)) = WC 1 s00 (fun _ => 0) 0 (fun _ => 0) (fun _ => 0) 0 s00 (fun _ => 0) (fun _ => 0) 0 false s00 (fun _ => 0) (fun _ => 0) 0 false 0 0 0 0 0 0 s00 (fun _ => 0) (fun _ => 0) (fun _ => 0) (fun _ => 0) := rfl
set_option maxRecDepth 20000 in
theorem mod_WM : ([(38, .inr (7, [.ref 39, .ref 40, .int 2, .int 0, .ref 41, .int 0, .ref 42, .int 0, .int 0, .int 0, .int 0, .int 0, .int 0, .ref 43, .ref 44, .ref 45, .ref 46, .ref 47, .ref 48, .ref 49])), (39, .inl (false, 22, (bki 6))), (40, .inl (false, 22, (fun _ => 0))), (41, .inl (false, 16, (fun _ => 0))), (42, .inl (false, 60, (fun _ => 0))), (43, .inl (false, 8, (fun _ => 0))), (44, .inl (false, 8, (fun _ => 0))), (45, .inl (false, 7, (fun _ => 0))), (46, .inl (false, 61, (fun _ => 0))), (47, .inl (true, 64, (fun _ => 0))), (48, .inl (false, 100, (fun _ => 0))), (49, .inl (true, 2, (fun _ => 0)))] : List (Nat × AC)) = WM s00 (fun _ => 0) 0 (fun _ => 0) (fun _ => 0) 0 false false 0 0 0 0 0 0 z00 (fun _ => 0) (fun _ => 0) (fun _ => 0) (fun _ => 0) (fun _ => 0) (fun _ => 0) (fun _ => 0) := by
  show _ = ([(38, .inr (7, [.ref 39, .ref 40, .int (sbu s00), .int (nI 0), .ref 41, .int (nI 0), .ref 42, .int 0, .int 0, .int 0, .int 0, .int 0, .int 0, .ref 43, .ref 44, .ref 45, .ref 46, .ref 47, .ref 48, .ref 49])), (39, .inl (false, 22, bkF s00)), (40, .inl (false, 22, bkF z00)), (41, .inl (false, 16, sgF (fun _ => 0) (fun _ => 0))), (42, .inl (false, 60, fun _ => 0)), (43, .inl (false, 8, fun _ => 0)), (44, .inl (false, 8, fun _ => 0)), (45, .inl (false, 7, fun _ => 0)), (46, .inl (false, 61, fun _ => 0)), (47, .inl (true, 64, fun _ => 0)), (48, .inl (false, 100, imgF (fun _ => 0) (fun _ => 0))), (49, .inl (true, 2, kpF false false))] : List (Nat × AC))
  rw [← bk_00, ← bk_z, ← sg_z, ← img_z, ← kp_z]
  rfl
theorem CI_00 : CI (WC 1 s00 (fun _ => 0) 0 (fun _ => 0) (fun _ => 0) 0 s00 (fun _ => 0) (fun _ => 0) 0 false s00 (fun _ => 0) (fun _ => 0) 0 false 0 0 0 0 0 0 s00 (fun _ => 0) (fun _ => 0) (fun _ => 0) (fun _ => 0)) (WM s00 (fun _ => 0) 0 (fun _ => 0) (fun _ => 0) 0 false false 0 0 0 0 0 0 z00 (fun _ => 0) (fun _ => 0) (fun _ => 0) (fun _ => 0) (fun _ => 0) (fun _ => 0) (fun _ => 0)) := CI_mk s00_ok (by decide) (by decide) s00_ok s00_ok s00_ok (fun _ _ => rfl) (fun _ _ => rfl) (fun _ _ => rfl) (fun _ _ => rfl) (fun _ _ => rfl) (fun _ _ => rfl) (by decide) (by decide) (fun _ _ => rfl) (by decide) (by decide) (fun i hi => by have h9 : i = 0 := (by omega); subst h9; rfl) (fun i hi => by have h9 : i = 0 := (by omega); subst h9; rfl) (fun _ _ => rfl) (fun h => by cases h) (fun h => by cases h)
set_option maxRecDepth 20000 in
theorem nests_in : ∀ q ∈ nests, Cond.methodLinkNest q.1 q.2.1 q.2.2.1 q.2.2.2 ∈ lw_tbl := List.forall_mem_cons.mpr ⟨List.mem_of_getElem? (i := 276) (by rfl), List.forall_mem_cons.mpr ⟨List.mem_of_getElem? (i := 315) (by rfl), List.forall_mem_cons.mpr ⟨List.mem_of_getElem? (i := 350) (by rfl), List.forall_mem_cons.mpr ⟨List.mem_of_getElem? (i := 410) (by rfl), List.forall_mem_cons.mpr ⟨List.mem_of_getElem? (i := 454) (by rfl), fun _ h => absurd h List.not_mem_nil⟩⟩⟩⟩⟩
theorem wunp_lt {i : Nat} (h : i < 48) : ¬ wunp i = 50 := by
  unfold wunp
  by_cases h1 : i < 34
  · rw [if_pos h1]; omega
  · rw [if_neg h1]
    by_cases h2 : i < 35
    · rw [if_pos h2]; omega
    · rw [if_neg h2]; omega
/-- from the head of the law's body behind both constructors -/
theorem law_all (L : Nat) (xs : Nat → Int32) (hL : L ≤ 448) (hp : HP) (C M : List (Nat × AC)) (hI : CI C M) : E (YL L xs) 8 16 [.ref 50, .ref 0, .ref 38, .null] [] (hov (hov hp C) M) (fun v _ => v = some (.int 1)) := by
  rw [← hov_swap (CI_klt hI) (CI_kge hI)]
  refine E_iconst (v := 0) dL_law_16 (by decide) ?_
  refine E_istore_n (l2 := [.ref 50, .ref 0, .ref 38, .int (nI 0)]) dL_law_17 rfl (Nat.le_of_ble_eq_true rfl) rfl ?_
  exact law_loop L xs hL (L + 1) 0 hp C M hI (Nat.zero_le L) (by omega)
set_option maxHeartbeats 4000000 in
set_option maxRecDepth 20000 in
/-- YOUR PART: from the entry, for every script of at most 448 ints, the law comes to its end with true ('hflags': the launch's flags, for a law that throws: no stack traces) -/
theorem whole_start {p : Program} {e : Env} {s : State} {m : MethodId} {below : List Frame} {meth : Method} {c : Code} (l : Launch) (hflags : l.flags = flags0) {b L : Nat} {xs : Nat → Int32} (hL : L ≤ 448) (C0 : lw_At p s m meth c b L xs) : W p l e room_1 s m #[Value.ref b] below meth c s.heap [] 0 0 (lw_Z below #[Value.ref b] s) (entryFrame m ([Value.ref b] : List Value).toArray 4) := by
  obtain ⟨hx, hb, hr, hml, hown, hts, hX, hbl, hlocks, hgv⟩ := id C0
  have htg : ∀ w ∈ gtbl, w.before #[Value.ref b] s = true := fun w hw => hts w (gtbl_lw hw)
  have hown : s.vm.findClass RL = some m.cls := hown
  obtain ⟨c0, iS0, hKn0⟩ := u_known (C := RX0) (T := TX0) (N := 8) (n := 8) hts (fun w hw => gtbl_lw (CLX0.2.1 w hw)) (hts _ (gtbl_lw xiX0))
  obtain ⟨c1, iS1, hKn1⟩ := u_known (C := RX1) (T := TX1) (N := 2) (n := 2) hts (fun w hw => gtbl_lw (CLX1.2.1 w hw)) (hts _ (gtbl_lw xiX1))
  obtain ⟨c2, iS2, hKn2⟩ := u_known (C := RX2) (T := TX2) (N := 3) (n := 3) hts (fun w hw => gtbl_lw (CLX2.2.1 w hw)) (hts _ (gtbl_lw xiX2))
  obtain ⟨c3, iS3, hKn3⟩ := u_known (C := RX3) (T := TX3) (N := 2) (n := 2) hts (fun w hw => gtbl_lw (CLX3.2.1 w hw)) (hts _ (gtbl_lw xiX3))
  obtain ⟨c4, iS4, hKn4⟩ := u_known (C := RX4) (T := TX4) (N := 3) (n := 3) hts (fun w hw => gtbl_lw (CLX4.2.1 w hw)) (hts _ (gtbl_lw xiX4))
  obtain ⟨c5, iS5, hKn5⟩ := u_known (C := RX5) (T := TX5) (N := 7) (n := 7) hts (fun w hw => gtbl_lw (CLX5.2.1 w hw)) (hts _ (gtbl_lw xiX5))
  obtain ⟨c6, iS6, hKn6⟩ := u_known (C := RX6) (T := TX6) (N := 10) (n := 10) hts (fun w hw => gtbl_lw (CLX6.2.1 w hw)) (hts _ (gtbl_lw xiX6))
  obtain ⟨c7, iS7, hKn7⟩ := u_known (C := RX7) (T := TX7) (N := 20) (n := 20) hts (fun w hw => gtbl_lw (CLX7.2.1 w hw)) (hts _ (gtbl_lw xiX7))
  obtain ⟨dC, dI, hKc⟩ : ∃ (dC : Nat → ClassId) (dI : Nat → Nat → Nat), ∀ (k : Nat) (q : vw_C), vwCl[k]? = some q → u_Kn s q.1 q.2.1 q.2.2 (dC k) (dI k) := by
    refine ⟨fun k => if k = 0 then c0 else if k = 1 then c1 else if k = 2 then c2 else if k = 3 then c3 else if k = 4 then c4 else if k = 5 then c5 else if k = 6 then c6 else c7, fun k => if k = 0 then iS0 else if k = 1 then iS1 else if k = 2 then iS2 else if k = 3 then iS3 else if k = 4 then iS4 else if k = 5 then iS5 else if k = 6 then iS6 else iS7, ?_⟩
    intro k q hq
    match k, hq with
    | 0, hq => cases hq; exact hKn0
    | 1, hq => cases hq; exact hKn1
    | 2, hq => cases hq; exact hKn2
    | 3, hq => cases hq; exact hKn3
    | 4, hq => cases hq; exact hKn4
    | 5, hq => cases hq; exact hKn5
    | 6, hq => cases hq; exact hKn6
    | 7, hq => cases hq; exact hKn7
    | k + 8, hq => simp [vwCl] at hq
  obtain ⟨cI, kI, compI, hfI, hkI, hkindI⟩ := Cond.arrayClass_spec (hts (.arrayClass .int) (gtbl_lw ar_i))
  obtain ⟨cZ, kZ, compZ, hfZ, hkZ, hkindZ⟩ := Cond.arrayClass_spec (hts (.arrayClass .boolean) (gtbl_lw ar_z))
  have hK : va_K (dC, dI) vwCl [(cI, .int), (cZ, .boolean)] s := ⟨hKc, fun k q h => by
    match k, h with
    | 0, h => cases h; exact ⟨fun n z => ⟨fun k h => (by cases h), kI, hkI, compI, hkindI⟩, hfI⟩
    | 1, h => cases h; exact ⟨fun n z => ⟨fun k h => (by cases h), kZ, hkZ, compZ, hkindZ⟩, hfZ⟩
    | k + 2, h => simp at h⟩
  obtain ⟨ad, had, had50⟩ : ∃ ad : Nat → Nat, AdB ad s.heap.size ∧ ad 50 = b := ⟨fun k => if k = 50 then b else s.heap.size + wpos k, fun k hk => (if_neg (wunp_lt hk)).trans (by rw [wpos_unp]), if_pos rfl⟩
  have hbA : ¬ (fun q : Nat => s.heap.size ≤ q) b := Nat.not_le.mpr hbl
  obtain ⟨hp0, -⟩ : ∃ hp0 : HP, True := ⟨fun _ => .inl (false, 0, fun _ => 0), trivial⟩
  have hW0 : WLG ad s.heap.size (dC, dI) cI cZ (fun q : Nat => s.heap.size ≤ q) s.heap s 0 hp0 s.heap [] := ⟨hK, fun k q h => by simp [mkN] at h, fun k hk => absurd hk (Nat.not_lt_zero k), va_S.rf, fun q h => h, rfl, had, by decide⟩
  have hl := ent_lvr (ad := ad) (n := 4) (vs := [.ref 50]) (Nat.le_of_ble_eq_true rfl)
  have ev : ([Value.ref 50] : List Value).map (cv ad) = [Value.ref b] := by rw [← had50]; rfl
  rw [ev] at hl
  rw [lg_entry_eq]
  generalize (lg_sl ([.ref b]) ++ List.replicate (4 - (lg_sl ([.ref b])).length) Slot.unset).toArray = ls at hl ⊢
  have hl : lvr ad ls 4 [.ref 50, .null, .null, .null] := hl
  refine wg_new (own := RL) (kn := 0) hx hb htg hown CLX6 xcL_7 xiX6 xnX6 (dfX6 ad) (Nat.le_of_ble_eq_true rfl) (Nat.le_of_ble_eq_true rfl) dL_law_0 hW0 (by decide) (fun H1 hW1 => ?_)
  refine lv_dup hx hb dL_law_3 rfl ?_
  refine wg_ctor (own := RL) (nL := 4) (Y' := YX6_init) (d := 3) (kc := 35) (ks := 364) hx hb hml htg hown NX6 kL_9 (g_X6_0 0 hp0) ⟨Nat.le_of_ble_eq_true rfl, Nat.le_of_ble_eq_true rfl⟩ hl.1 (Nat.le_of_ble_eq_true rfl) dL_law_4 ⟨Nat.le_of_ble_eq_true rfl, Nat.le_of_ble_eq_true rfl⟩ hW1 (fun n' hp' H2 locs2 hq hW2 => ?_)
  obtain ⟨en, eh⟩ := hq
  subst en
  rw [top_WC] at eh
  subst eh
  refine lv_astore_n hx hb dL_law_7 rfl hl (by decide) rfl (fun ls2 h2 => ?_)
  have hl2 : lvr ad ls2 4 [.ref 50, .ref 0, .null, .null] := lvr_st1 (x := .ref 0) h2
  clear h2
  refine wg_new (own := RL) (kn := 38) hx hb htg hown CLX7 xcL_10 xiX7 xnX7 (dfX7 ad) (Nat.le_of_ble_eq_true rfl) (Nat.le_of_ble_eq_true rfl) dL_law_8 hW2 (by decide) (fun H3 hW3 => ?_)
  refine lv_dup hx hb dL_law_11 rfl ?_
  refine wg_ctor (own := RL) (nL := 4) (Y' := YX7_init) (d := 3) (kc := 11) (ks := 370) hx hb hml htg hown NX7 kL_12 (g_X7_38 2 (hov hp0 (WC 1 s00 (fun _ => 0) 0 (fun _ => 0) (fun _ => 0) 0 s00 (fun _ => 0) (fun _ => 0) 0 false s00 (fun _ => 0) (fun _ => 0) 0 false 0 0 0 0 0 0 s00 (fun _ => 0) (fun _ => 0) (fun _ => 0) (fun _ => 0)))) ⟨Nat.le_of_ble_eq_true rfl, Nat.le_of_ble_eq_true rfl⟩ hl2.1 (Nat.le_of_ble_eq_true rfl) dL_law_12 ⟨Nat.le_of_ble_eq_true rfl, Nat.le_of_ble_eq_true rfl⟩ hW3 (fun n' hp' H4 locs4 hq hW4 => ?_)
  obtain ⟨en, eh⟩ := hq
  subst en
  rw [mod_WM] at eh
  subst eh
  refine lv_astore_n hx hb dL_law_15 rfl hl2 (by decide) rfl (fun ls3 h3 => ?_)
  have hl3 : lvr ad ls3 4 [.ref 50, .ref 0, .ref 38, .null] := lvr_st1 (x := .ref 38) h3
  clear h3
  obtain ⟨hK4, hP4, hAk4, hS4, hA4, hsz4, -, -⟩ := hW4
  refine law_all L xs hL hp0 _ _ CI_00 p l e room_1 s m #[Value.ref b] below meth c H4 locs4 _ _ ad (dC, dI) cI cZ (fun q : Nat => s.heap.size ≤ q) s.heap _ ls3 ⟨hx, hb, hml, hr, hlocks, hown, htg, fun q hq => va_tabs (A := #[Value.ref b]) (u := s) rfl rfl (hts _ (nests_in q hq)), Nat.le_of_ble_eq_true rfl, Nat.le_of_ble_eq_true rfl, Nat.le_of_ble_eq_true rfl, Nat.le_of_ble_eq_true rfl⟩ ⟨hK4, hP4, mkN_D had (by decide) hAk4, hS4, hA4, by rw [had50]; exact ⟨hX, hbl, hbA⟩⟩ hl3 ?_
  intro v hp' H' locs' pc' ls' hQ hW hT
  subst hQ
  refine va_forget hW.2.2.2.1.2.2 ?_
  rcases hT with ⟨x, ty, hv, hd, -⟩ | ⟨x, hv, -⟩ | ⟨hv, -⟩
  · exact lw_ret hx hb hr hlocks hd
  · cases hv
  · cases hv
set_option maxHeartbeats 4000000 in
theorem lw_walk (l : Launch) (hflags : l.flags = flags0) (b : Addr) (xs : List Int32) : MetFree l x (headSpec (Jvm.Cond.code x code maxLocals ret :: tables_1) room_1) (lw_P b xs) (fun _ _ _ _ _ => True) lw_Q := by
  refine MetFree.of_bodyS (code := code) (maxLocals := maxLocals) (ret := ret) (by decide) ?_ ?_
  · intro args s m h hn
    obtain ⟨meth, c, h1, h2, h3, h4, h5, h6, -, -⟩ := Cond.code_spec hn (atoms_spec (ws := Jvm.Cond.code x code maxLocals ret :: tables_1) h _ List.mem_cons_self)
    exact ⟨meth, c, h1, h2, h3, h4, h5, h6⟩
  · intro p e s m args below meth c s₁ B hml0 hP _
    obtain ⟨rfl, hx, hbd, hgv⟩ := hP
    obtain ⟨scr, harrAt, hlist, hof, hsmall⟩ := hx
    obtain ⟨hcb, hkn, -, -⟩ := State.arrayAt?_spec harrAt
    have hown : s.vm.findClass R_law = some m.cls := findClass_of_methodNamed B.named
    have hts0 : ∀ c ∈ (Jvm.Cond.code x code maxLocals ret :: tables_1), c.before #[Value.ref b] s = true := atoms_spec (ws := Jvm.Cond.code x code maxLocals ret :: tables_1) B.pre
    have hts : ∀ w ∈ lw_tbl, w.before #[Value.ref b] s = true := k2_hts_sels lw_privs (fun w hw => hts0 w (List.mem_cons_of_mem _ hw)) lw_privs_ok
    have hml : c.maxLocals = 4 := B.maxLocals_eq (hts0 _ List.mem_cons_self)
    have X₀ : Stand p l e room_1 s m #[Value.ref b] below meth c s₁ [] 0 0 := Stand.of_body B
    have hh0 : s₁.heap = s.heap := by rw [B.state]; rfl
    have hsz : scr.slots.size = xs.length := by rw [← Array.length_toList, hlist, List.length_map]
    have hval : ∀ j : Nat, j < xs.length → scr.slots[j]? = some (.int (xs.getD j 0)) := fun j hj => by
      rw [← Array.getElem?_toList, hlist]
      simp [hj]
    have hbl : b < s.heap.size := (Array.getElem?_eq_some_iff.mp hcb).1
    have hX : va_X b xs.length (fun j => xs.getD j 0) s s.heap := ⟨scr, hcb, hof, hkn, hsz, hval⟩
    have K : W p l e room_1 s m #[Value.ref b] below meth c s₁.heap [] 0 0 (lw_Z below #[Value.ref b] s) (entryFrame m ([Value.ref b] : List Value).toArray 4) := by
      rw [hh0]
      exact whole_start l hflags hbd ⟨B.exec, B.bytes, B.returns, hml, hown, hts, hX, hbl, B.notSynchronized, hgv⟩
    obtain ⟨t, a1, o, b1, b2, b3⟩ := K s₁ rfl X₀
    exact ⟨t, o, a1, b1, b2, b3⟩
theorem lw_pre_spec {args : Array Value} {s : State} (h : (Jvm.Cond.and given_1 narrow_1).before args s = true) (hr : rest_1_c.before args s = true) : ∃ (b : Addr) (xs : List Int32), lw_P b xs args s := by
  have hs := flat_of_before _ h
  have hq := flat_of_before _ hr
  have hc : (Cond.count 1).before args s = true := hs _ (by decide +kernel)
  have harr : (Cond.arrayOf (.arg 0) .int).before args s = true := hs _ (by decide +kernel)
  have hle : (Cond.le (.length (.arg 0)) (.int 448)).before args s = true := hs _ (by decide +kernel)
  have hlen : (Cond.isInt (.length (.arg 0))).before args s = true := hq _ (by decide +kernel)
  have hall : (Cond.all (.arg 0) (.isInt (.elem (.arg 0) (.index 0)))).before args s = true := hq _ (by decide +kernel)
  obtain ⟨b, xs, hb, hx⟩ := State.ints_of_pre rfl harr hlen hall
  have hsm : xs.length < 2 ^ 31 := hx.choose_spec.2.2.2
  have hev : (Term.length (.arg 0)).eval args s none [] s = some (.int xs.length.toInt32) := hx.length_eval hb
  have hv := Cond.le_ints hev (show (Term.int 448).eval args s none [] s = some (.int 448) from rfl)
  have hd : xs.length.toInt32 ≤ 448 := by
    simpa [Cond.before, Cond.holds, hv] using hle
  have hN : xs.length ≤ 448 := (Int32.ofNat_le_ofNat hsm (by decide)).mp (show Int32.ofNat xs.length ≤ Int32.ofNat 448 from hd)
  exact ⟨b, xs, Cond.one_arg hc (show args[0]? = some (.ref b) from hb), hx, hN, h⟩
theorem lw_comes (l : Launch) (hflags : l.flags = flags0) : Comes l x (Jvm.Cond.code x code maxLocals ret :: tables_1) room_1 (fun tb e args s => Calls_1 tb e args s ∧ rest_1 tb e args s ∧ Pre_1 tb e args s)
    (fun _ _ args s o t => lw_Q args s o t) := by
  intro p e ha hc hk s m args below hf hfit hheap happ hpre
  obtain ⟨b, xs, hP⟩ := lw_pre_spec hpre.2.2 hpre.2.1
  obtain ⟨k, o, h1, h2, h3, hQ⟩ := lw_walk l hflags b xs p e ha hc hk s m args below hf ((Spec.applies_iff_loose hf).mp happ).1 hP trivial
  exact ⟨k, o, h1, h2, h3, hQ⟩
theorem lw_frame {s t : State} {o : Outcome} {args : Array Value} (h : Framed s o t [] 48 764) :
    Framed s o t (fieldLocs frame_1_writes args s ++ arrayLocs frame_1_arrays args s ++ staticLocs frame_1_statics s) 48 764 := h
theorem lw_limb (L : Cond) (hL : ∀ (args : Array Value) (s t : State), L.after args s (.returned (some (.int 1))) t = true) :
    ArmFor flags0 classFile x code maxLocals ret World_1 tables_1 room_1 Calls_1 rest_1 Pre_1
      (fun tb e a s o t => postC L tb e a s o t ∧ Framed s o t (fieldLocs frame_1_writes a s ++ arrayLocs frame_1_arrays a s ++ staticLocs frame_1_statics s) 48 764) := by
  intro l hflags _ _ p e ha hc hk s m args below hf hfit hheap happ hpre
  obtain ⟨k, o, h1, h2, h3, rfl, hF⟩ := lw_comes l hflags p e ha hc hk s m args below hf hfit hheap happ hpre
  exact ⟨k, _, h1, h2, h3, hL args s _, lw_frame hF⟩
theorem i_vc : Claimed_1_1 ∧ Claimed_1_2 := ⟨lw_limb limb_1_1 (fun args s t => by simp [limb_1_1, Cond.after, Cond.holds, Cond.value]), lw_limb limb_1_2 (fun args s t => Cond.after_iff.mpr (by
  first | (rw [show limb_1_2 = Cond.eq .result (.int 1) from rfl, Cond.eq_ints (x := 1) (y := 1) rfl rfl]; simp; done) | (simp [limb_1_2, Cond.value, Term.eval]; done)))⟩
