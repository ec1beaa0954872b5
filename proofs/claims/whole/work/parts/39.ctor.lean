set_option maxRecDepth 20000 in
theorem oinit_in : oin := ⟨gtbl_in (w := Cond.instanceMethod objectInit) 38 (by rfl) (by rfl), gtbl_in (w := Cond.code objectInit ⟨#[0xb1]⟩ 1 none) 39 (by rfl) (by rfl)⟩
set_option maxRecDepth 20000 in
theorem ar_i : Cond.arrayClass .int ∈ gtbl := gtbl_in (w := Cond.arrayClass .int) 79 (by rfl) (by rfl)
set_option maxRecDepth 20000 in
theorem ar_z : Cond.arrayClass .boolean ∈ gtbl := gtbl_in (w := Cond.arrayClass .boolean) 606 (by rfl) (by rfl)
set_option maxRecDepth 20000 in
theorem oX0 : Cond.methodLink RX0 3 objectInit ∈ gtbl := gtbl_in (w := Cond.methodLink RX0 3 objectInit) 45 (by rfl) (by rfl)
set_option maxRecDepth 20000 in
theorem xiX0 : Cond.instantiable RX0 8 ∈ gtbl := gtbl_in (w := Cond.instantiable RX0 8) 41 (by rfl) (by rfl)
set_option maxRecDepth 20000 in
theorem xnX0 : Cond.initialized RX0 ∈ gtbl := gtbl_in (w := Cond.initialized RX0) 23 (by rfl) (by rfl)
set_option maxRecDepth 20000 in
theorem NX0 : MTI yX0_init YX0_init := ⟨xnX0, gtbl_in (w := Cond.code yX0_init cX0_init 2 none) 44 (by rfl) (by rfl), gtbl_in (w := Cond.instanceMethod yX0_init) 43 (by rfl) (by rfl), by decide +kernel, by decide +kernel, rfl, rfl, rfl, by decide, by decide⟩
theorem ffX0_0 : FLF 0 0 RX0 := fun r h => by cases h; exact ⟨rfl, rfl⟩
theorem ffX0_1 : FLF 0 1 RX0 := fun r h => by cases h; exact ⟨rfl, rfl⟩
theorem ffX0_2 : FLF 0 2 RX0 := fun r h => by cases h; exact ⟨rfl, rfl⟩
theorem dfX0 : ∀ ad : Nat → Nat, ∀ j, j < 8 → defaultValue (tyX0 j) = vp_V (([.null, .null, .null, .int 0, .int 0, .int 0, .int 0, .int 0] : List Value).map (cv ad)) j := by
  intro ad j hj
  rcases (show j = 0 ∨ j = 1 ∨ j = 2 ∨ j = 3 ∨ j = 4 ∨ j = 5 ∨ j = 6 ∨ j = 7 by omega) with rfl | rfl | rfl | rfl | rfl | rfl | rfl | rfl <;> rfl
set_option maxRecDepth 20000 in
theorem oX1 : Cond.methodLink RX1 3 objectInit ∈ gtbl := gtbl_in (w := Cond.methodLink RX1 3 objectInit) 177 (by rfl) (by rfl)
set_option maxRecDepth 20000 in
theorem xiX1 : Cond.instantiable RX1 2 ∈ gtbl := gtbl_in (w := Cond.instantiable RX1 2) 173 (by rfl) (by rfl)
set_option maxRecDepth 20000 in
theorem xnX1 : Cond.initialized RX1 ∈ gtbl := gtbl_in (w := Cond.initialized RX1) 28 (by rfl) (by rfl)
set_option maxRecDepth 20000 in
theorem NX1 : MTI yX1_init YX1_init := ⟨xnX1, gtbl_in (w := Cond.code yX1_init cX1_init 1 none) 176 (by rfl) (by rfl), gtbl_in (w := Cond.instanceMethod yX1_init) 175 (by rfl) (by rfl), by decide +kernel, by decide +kernel, rfl, rfl, rfl, by decide, by decide⟩
theorem ffX1_0 : FLF 1 0 RX1 := fun r h => by cases h; exact ⟨rfl, rfl⟩
theorem ffX1_1 : FLF 1 1 RX1 := fun r h => by cases h; exact ⟨rfl, rfl⟩
theorem dfX1 : ∀ ad : Nat → Nat, ∀ j, j < 2 → defaultValue (tyX1 j) = vp_V (([.null, .null] : List Value).map (cv ad)) j := by
  intro ad j hj
  rcases (show j = 0 ∨ j = 1 by omega) with rfl | rfl <;> rfl
set_option maxRecDepth 20000 in
theorem oX2 : Cond.methodLink RX2 1 objectInit ∈ gtbl := gtbl_in (w := Cond.methodLink RX2 1 objectInit) 118 (by rfl) (by rfl)
set_option maxRecDepth 20000 in
theorem xiX2 : Cond.instantiable RX2 3 ∈ gtbl := gtbl_in (w := Cond.instantiable RX2 3) 114 (by rfl) (by rfl)
set_option maxRecDepth 20000 in
theorem xnX2 : Cond.initialized RX2 ∈ gtbl := gtbl_in (w := Cond.initialized RX2) 26 (by rfl) (by rfl)
set_option maxRecDepth 20000 in
theorem NX2 : MTI yX2_init YX2_init := ⟨xnX2, gtbl_in (w := Cond.code yX2_init cX2_init 1 none) 117 (by rfl) (by rfl), gtbl_in (w := Cond.instanceMethod yX2_init) 116 (by rfl) (by rfl), by decide +kernel, by decide +kernel, rfl, rfl, rfl, by decide, by decide⟩
theorem ffX2_0 : FLF 2 0 RX2 := fun r h => by cases h; exact ⟨rfl, rfl⟩
theorem ffX2_1 : FLF 2 1 RX2 := fun r h => by cases h; exact ⟨rfl, rfl⟩
theorem dfX2 : ∀ ad : Nat → Nat, ∀ j, j < 3 → defaultValue (tyX2 j) = vp_V (([.null, .null, .int 0] : List Value).map (cv ad)) j := by
  intro ad j hj
  rcases (show j = 0 ∨ j = 1 ∨ j = 2 by omega) with rfl | rfl | rfl <;> rfl
set_option maxRecDepth 20000 in
theorem oX3 : Cond.methodLink RX3 3 objectInit ∈ gtbl := gtbl_in (w := Cond.methodLink RX3 3 objectInit) 85 (by rfl) (by rfl)
set_option maxRecDepth 20000 in
theorem xiX3 : Cond.instantiable RX3 2 ∈ gtbl := gtbl_in (w := Cond.instantiable RX3 2) 81 (by rfl) (by rfl)
set_option maxRecDepth 20000 in
theorem xnX3 : Cond.initialized RX3 ∈ gtbl := gtbl_in (w := Cond.initialized RX3) 24 (by rfl) (by rfl)
set_option maxRecDepth 20000 in
theorem NX3 : MTI yX3_init YX3_init := ⟨xnX3, gtbl_in (w := Cond.code yX3_init cX3_init 1 none) 84 (by rfl) (by rfl), gtbl_in (w := Cond.instanceMethod yX3_init) 83 (by rfl) (by rfl), by decide +kernel, by decide +kernel, rfl, rfl, rfl, by decide, by decide⟩
theorem ffX3_0 : FLF 3 0 RX3 := fun r h => by cases h; exact ⟨rfl, rfl⟩
theorem dfX3 : ∀ ad : Nat → Nat, ∀ j, j < 2 → defaultValue (tyX3 j) = vp_V (([.null, .int 0] : List Value).map (cv ad)) j := by
  intro ad j hj
  rcases (show j = 0 ∨ j = 1 by omega) with rfl | rfl <;> rfl
set_option maxRecDepth 20000 in
theorem oX4 : Cond.methodLink RX4 3 objectInit ∈ gtbl := gtbl_in (w := Cond.methodLink RX4 3 objectInit) 101 (by rfl) (by rfl)
set_option maxRecDepth 20000 in
theorem xiX4 : Cond.instantiable RX4 3 ∈ gtbl := gtbl_in (w := Cond.instantiable RX4 3) 97 (by rfl) (by rfl)
set_option maxRecDepth 20000 in
theorem xnX4 : Cond.initialized RX4 ∈ gtbl := gtbl_in (w := Cond.initialized RX4) 25 (by rfl) (by rfl)
set_option maxRecDepth 20000 in
theorem NX4 : MTI yX4_init YX4_init := ⟨xnX4, gtbl_in (w := Cond.code yX4_init cX4_init 1 none) 100 (by rfl) (by rfl), gtbl_in (w := Cond.instanceMethod yX4_init) 99 (by rfl) (by rfl), by decide +kernel, by decide +kernel, rfl, rfl, rfl, by decide, by decide⟩
theorem ffX4_0 : FLF 4 0 RX4 := fun r h => by cases h; exact ⟨rfl, rfl⟩
theorem ffX4_1 : FLF 4 1 RX4 := fun r h => by cases h; exact ⟨rfl, rfl⟩
theorem dfX4 : ∀ ad : Nat → Nat, ∀ j, j < 3 → defaultValue (tyX4 j) = vp_V (([.null, .null, .int 0] : List Value).map (cv ad)) j := by
  intro ad j hj
  rcases (show j = 0 ∨ j = 1 ∨ j = 2 by omega) with rfl | rfl | rfl <;> rfl
set_option maxRecDepth 20000 in
theorem oX5 : Cond.methodLink RX5 3 objectInit ∈ gtbl := gtbl_in (w := Cond.methodLink RX5 3 objectInit) 140 (by rfl) (by rfl)
set_option maxRecDepth 20000 in
theorem xiX5 : Cond.instantiable RX5 7 ∈ gtbl := gtbl_in (w := Cond.instantiable RX5 7) 136 (by rfl) (by rfl)
set_option maxRecDepth 20000 in
theorem xnX5 : Cond.initialized RX5 ∈ gtbl := gtbl_in (w := Cond.initialized RX5) 27 (by rfl) (by rfl)
set_option maxRecDepth 20000 in
theorem NX5 : MTI yX5_init YX5_init := ⟨xnX5, gtbl_in (w := Cond.code yX5_init cX5_init 1 none) 139 (by rfl) (by rfl), gtbl_in (w := Cond.instanceMethod yX5_init) 138 (by rfl) (by rfl), by decide +kernel, by decide +kernel, rfl, rfl, rfl, by decide, by decide⟩
theorem ffX5_0 : FLF 5 0 RX5 := fun r h => by cases h; exact ⟨rfl, rfl⟩
theorem dfX5 : ∀ ad : Nat → Nat, ∀ j, j < 7 → defaultValue (tyX5 j) = vp_V (([.null, .int 0, .int 0, .int 0, .int 0, .int 0, .int 0] : List Value).map (cv ad)) j := by
  intro ad j hj
  rcases (show j = 0 ∨ j = 1 ∨ j = 2 ∨ j = 3 ∨ j = 4 ∨ j = 5 ∨ j = 6 by omega) with rfl | rfl | rfl | rfl | rfl | rfl | rfl <;> rfl
set_option maxRecDepth 20000 in
theorem oX6 : Cond.methodLink RX6 3 objectInit ∈ gtbl := gtbl_in (w := Cond.methodLink RX6 3 objectInit) 37 (by rfl) (by rfl)
set_option maxRecDepth 20000 in
theorem xiX6 : Cond.instantiable RX6 10 ∈ gtbl := gtbl_in (w := Cond.instantiable RX6 10) 33 (by rfl) (by rfl)
set_option maxRecDepth 20000 in
theorem xnX6 : Cond.initialized RX6 ∈ gtbl := gtbl_in (w := Cond.initialized RX6) 22 (by rfl) (by rfl)
set_option maxRecDepth 20000 in
theorem NX6 : MTI yX6_init YX6_init := ⟨xnX6, gtbl_in (w := Cond.code yX6_init cX6_init 1 none) 36 (by rfl) (by rfl), gtbl_in (w := Cond.instanceMethod yX6_init) 35 (by rfl) (by rfl), by decide +kernel, by decide +kernel, rfl, rfl, rfl, by decide, by decide⟩
theorem ffX6_0 : FLF 6 0 RX6 := fun r h => by cases h; exact ⟨rfl, rfl⟩
theorem ffX6_1 : FLF 6 1 RX6 := fun r h => by cases h; exact ⟨rfl, rfl⟩
theorem ffX6_2 : FLF 6 2 RX6 := fun r h => by cases h; exact ⟨rfl, rfl⟩
theorem ffX6_3 : FLF 6 3 RX6 := fun r h => by cases h; exact ⟨rfl, rfl⟩
theorem ffX6_4 : FLF 6 4 RX6 := fun r h => by cases h; exact ⟨rfl, rfl⟩
theorem ffX6_5 : FLF 6 5 RX6 := fun r h => by cases h; exact ⟨rfl, rfl⟩
theorem ffX6_6 : FLF 6 6 RX6 := fun r h => by cases h; exact ⟨rfl, rfl⟩
theorem ffX6_7 : FLF 6 7 RX6 := fun r h => by cases h; exact ⟨rfl, rfl⟩
theorem ffX6_8 : FLF 6 8 RX6 := fun r h => by cases h; exact ⟨rfl, rfl⟩
theorem dfX6 : ∀ ad : Nat → Nat, ∀ j, j < 10 → defaultValue (tyX6 j) = vp_V (([.null, .null, .null, .null, .null, .null, .null, .null, .null, .int 0] : List Value).map (cv ad)) j := by
  intro ad j hj
  rcases (show j = 0 ∨ j = 1 ∨ j = 2 ∨ j = 3 ∨ j = 4 ∨ j = 5 ∨ j = 6 ∨ j = 7 ∨ j = 8 ∨ j = 9 by omega) with rfl | rfl | rfl | rfl | rfl | rfl | rfl | rfl | rfl | rfl <;> rfl
set_option maxRecDepth 20000 in
theorem oX7 : Cond.methodLink RX7 1 objectInit ∈ gtbl := gtbl_in (w := Cond.methodLink RX7 1 objectInit) 544 (by rfl) (by rfl)
set_option maxRecDepth 20000 in
theorem xiX7 : Cond.instantiable RX7 20 ∈ gtbl := gtbl_in (w := Cond.instantiable RX7 20) 540 (by rfl) (by rfl)
set_option maxRecDepth 20000 in
theorem xnX7 : Cond.initialized RX7 ∈ gtbl := gtbl_in (w := Cond.initialized RX7) 29 (by rfl) (by rfl)
set_option maxRecDepth 20000 in
theorem NX7 : MTI yX7_init YX7_init := ⟨xnX7, gtbl_in (w := Cond.code yX7_init cX7_init 2 none) 543 (by rfl) (by rfl), gtbl_in (w := Cond.instanceMethod yX7_init) 542 (by rfl) (by rfl), by decide +kernel, by decide +kernel, rfl, rfl, rfl, by decide, by decide⟩
theorem ffX7_0 : FLF 7 0 RX7 := fun r h => by cases h; exact ⟨rfl, rfl⟩
theorem ffX7_1 : FLF 7 1 RX7 := fun r h => by cases h; exact ⟨rfl, rfl⟩
theorem ffX7_4 : FLF 7 4 RX7 := fun r h => by cases h; exact ⟨rfl, rfl⟩
theorem ffX7_6 : FLF 7 6 RX7 := fun r h => by cases h; exact ⟨rfl, rfl⟩
theorem ffX7_13 : FLF 7 13 RX7 := fun r h => by cases h; exact ⟨rfl, rfl⟩
theorem ffX7_14 : FLF 7 14 RX7 := fun r h => by cases h; exact ⟨rfl, rfl⟩
theorem ffX7_15 : FLF 7 15 RX7 := fun r h => by cases h; exact ⟨rfl, rfl⟩
theorem ffX7_16 : FLF 7 16 RX7 := fun r h => by cases h; exact ⟨rfl, rfl⟩
theorem ffX7_17 : FLF 7 17 RX7 := fun r h => by cases h; exact ⟨rfl, rfl⟩
theorem ffX7_18 : FLF 7 18 RX7 := fun r h => by cases h; exact ⟨rfl, rfl⟩
theorem ffX7_19 : FLF 7 19 RX7 := fun r h => by cases h; exact ⟨rfl, rfl⟩
theorem dfX7 : ∀ ad : Nat → Nat, ∀ j, j < 20 → defaultValue (tyX7 j) = vp_V (([.null, .null, .int 0, .int 0, .null, .int 0, .null, .int 0, .int 0, .int 0, .int 0, .int 0, .int 0, .null, .null, .null, .null, .null, .null, .null] : List Value).map (cv ad)) j := by
  intro ad j hj
  rcases (show j = 0 ∨ j = 1 ∨ j = 2 ∨ j = 3 ∨ j = 4 ∨ j = 5 ∨ j = 6 ∨ j = 7 ∨ j = 8 ∨ j = 9 ∨ j = 10 ∨ j = 11 ∨ j = 12 ∨ j = 13 ∨ j = 14 ∨ j = 15 ∨ j = 16 ∨ j = 17 ∨ j = 18 ∨ j = 19 by omega) with rfl | rfl | rfl | rfl | rfl | rfl | rfl | rfl | rfl | rfl | rfl | rfl | rfl | rfl | rfl | rfl | rfl | rfl | rfl | rfl <;> rfl
set_option maxRecDepth 20000 in
theorem xcX6_9 : Cond.classLink RX6 9 RX0 ∈ gtbl := gtbl_in (w := Cond.classLink RX6 9 RX0) 40 (by rfl) (by rfl)
set_option maxRecDepth 20000 in
theorem xcX6_16 : Cond.classLink RX6 16 RX3 ∈ gtbl := gtbl_in (w := Cond.classLink RX6 16 RX3) 80 (by rfl) (by rfl)
set_option maxRecDepth 20000 in
theorem xcX6_23 : Cond.classLink RX6 23 RX4 ∈ gtbl := gtbl_in (w := Cond.classLink RX6 23 RX4) 96 (by rfl) (by rfl)
set_option maxRecDepth 20000 in
theorem xcX6_30 : Cond.classLink RX6 30 RX2 ∈ gtbl := gtbl_in (w := Cond.classLink RX6 30 RX2) 113 (by rfl) (by rfl)
set_option maxRecDepth 20000 in
theorem xcX2_7 : Cond.classLink RX2 7 RX0 ∈ gtbl := gtbl_in (w := Cond.classLink RX2 7 RX0) 119 (by rfl) (by rfl)
set_option maxRecDepth 20000 in
theorem xcX2_16 : Cond.classLink RX2 16 RX4 ∈ gtbl := gtbl_in (w := Cond.classLink RX2 16 RX4) 121 (by rfl) (by rfl)
set_option maxRecDepth 20000 in
theorem xcX6_40 : Cond.classLink RX6 40 RX5 ∈ gtbl := gtbl_in (w := Cond.classLink RX6 40 RX5) 135 (by rfl) (by rfl)
set_option maxRecDepth 20000 in
theorem xcX5_9 : Cond.classLink RX5 9 RX0 ∈ gtbl := gtbl_in (w := Cond.classLink RX5 9 RX0) 141 (by rfl) (by rfl)
set_option maxRecDepth 20000 in
theorem xcX6_47 : Cond.classLink RX6 47 RX1 ∈ gtbl := gtbl_in (w := Cond.classLink RX6 47 RX1) 172 (by rfl) (by rfl)
set_option maxRecDepth 20000 in
theorem xcL_7 : Cond.classLink RL 7 RX6 ∈ gtbl := gtbl_in (w := Cond.classLink RL 7 RX6) 32 (by rfl) (by rfl)
set_option maxRecDepth 20000 in
theorem xcL_10 : Cond.classLink RL 10 RX7 ∈ gtbl := gtbl_in (w := Cond.classLink RL 10 RX7) 539 (by rfl) (by rfl)
def fl (x : Int32) (i : Nat) : Nat → Int32 := fun j => if j < i then x else 0
theorem fl_0 (x : Int32) : fl x 0 = fun _ => 0 := by funext j; simp [fl]
theorem fl_s (x : Int32) (i : Nat) : upd (fl x i) i x = fl x (i + 1) := by
  funext j; simp only [upd, fl]; by_cases e : j = i
  · rw [if_pos e, if_pos (by omega)]
  · rw [if_neg e]; by_cases z : j < i
    · rw [if_pos z, if_pos (by omega)]
    · rw [if_neg z, if_neg (by omega)]
def bki (i : Nat) : Nat → Int32 := fun j => if 6 ≤ j ∧ j < 6 + i then 5 else if 12 ≤ j ∧ j < 12 + i then -6 else 0
theorem bki_0 : bki 0 = fun _ => 0 := by
  funext j; simp only [bki]; rw [if_neg (by omega), if_neg (by omega)]
theorem bki_s (i : Nat) (hi : i < 6) : upd (upd (bki i) (6 + i) 5) (12 + i) (-6) = bki (i + 1) := by
  funext j; simp only [upd, bki]
  repeat' split
  all_goals first | rfl | omega
set_option maxHeartbeats 4000000 in
set_option maxRecDepth 20000 in
theorem g_X0_1 (d : Nat) : GC YX0_init (d + 1) [.ref 1, .null] 2 [(1, .inr (0, [.null, .null, .null, .int 0, .int 0, .int 0, .int 0, .int 0]))] 3 18 5 [(1, .inr (0, [.ref 2, .ref 3, .ref 4, .int 0, .int 0, .int 0, .int 2, .int 0])), (2, .inl (false, 6, (fl (-6) 6))), (3, .inl (false, 6, (fun _ => 0))), (4, .inl (false, 6, (fl 5 6)))] := by
  intro hp
  show GX YX0_init (d + 1) 0 [.ref 1, .null] [] 2 (hov hp [(1, .inr (0, [.null, .null, .null, .int 0, .int 0, .int 0, .int 0, .int 0]))]) 3 18 (fun n' h => n' = 5 ∧ h = hov hp [(1, .inr (0, [.ref 2, .ref 3, .ref 4, .int 0, .int 0, .int 0, .int 2, .int 0])), (2, .inl (false, 6, (fl (-6) 6))), (3, .inl (false, 6, (fun _ => 0))), (4, .inl (false, 6, (fl 5 6)))])
  refine G_aload_n dX0_init_0 rfl ?_
  refine G_oinit dX0_init_1 oX0 oinit_in (Nat.le_of_ble_eq_true rfl) ?_
  refine G_aload_n dX0_init_4 rfl ?_
  refine G_bipush (v := 6) dX0_init_5 (by decide) ?_
  refine G_newai (kn := 2) (N := 6) (kc := 2) (ks := 12) (L2 := [(1, .inr (0, [.null, .null, .null, .int 0, .int 0, .int 0, .int 0, .int 0])), (2, .inl (false, 6, (fun _ => 0)))]) dX0_init_7 ar_i (by decide) (by decide) (by decide) (by decide) rfl ?_
  refine G_putF (fs2 := [.ref 2, .null, .null, .int 0, .int 0, .int 0, .int 0, .int 0]) (L2 := [(1, .inr (0, [.ref 2, .null, .null, .int 0, .int 0, .int 0, .int 0, .int 0])), (2, .inl (false, 6, (fun _ => 0)))]) dX0_init_9 fX0_9 ffX0_0 (by decide) rfl (fun _ => ⟨rfl, rfl⟩) (Nat.le_of_ble_eq_true rfl) rfl rfl ?_
  refine G_aload_n dX0_init_12 rfl ?_
  refine G_bipush (v := 6) dX0_init_13 (by decide) ?_
  refine G_newai (kn := 3) (N := 6) (kc := 1) (ks := 6) (L2 := [(1, .inr (0, [.ref 2, .null, .null, .int 0, .int 0, .int 0, .int 0, .int 0])), (2, .inl (false, 6, (fun _ => 0))), (3, .inl (false, 6, (fun _ => 0)))]) dX0_init_15 ar_i (by decide) (by decide) (by decide) (by decide) rfl ?_
  refine G_putF (fs2 := [.ref 2, .ref 3, .null, .int 0, .int 0, .int 0, .int 0, .int 0]) (L2 := [(1, .inr (0, [.ref 2, .ref 3, .null, .int 0, .int 0, .int 0, .int 0, .int 0])), (2, .inl (false, 6, (fun _ => 0))), (3, .inl (false, 6, (fun _ => 0)))]) dX0_init_17 fX0_15 ffX0_1 (by decide) rfl (fun _ => ⟨rfl, rfl⟩) (Nat.le_of_ble_eq_true rfl) rfl rfl ?_
  refine G_aload_n dX0_init_20 rfl ?_
  refine G_bipush (v := 6) dX0_init_21 (by decide) ?_
  refine G_newai (kn := 4) (N := 6) (kc := 0) (ks := 0) (L2 := [(1, .inr (0, [.ref 2, .ref 3, .null, .int 0, .int 0, .int 0, .int 0, .int 0])), (2, .inl (false, 6, (fun _ => 0))), (3, .inl (false, 6, (fun _ => 0))), (4, .inl (false, 6, (fun _ => 0)))]) dX0_init_23 ar_i (by decide) (by decide) (by decide) (by decide) rfl ?_
  refine G_putF (fs2 := [.ref 2, .ref 3, .ref 4, .int 0, .int 0, .int 0, .int 0, .int 0]) (L2 := [(1, .inr (0, [.ref 2, .ref 3, .ref 4, .int 0, .int 0, .int 0, .int 0, .int 0])), (2, .inl (false, 6, (fun _ => 0))), (3, .inl (false, 6, (fun _ => 0))), (4, .inl (false, 6, (fun _ => 0)))]) dX0_init_25 fX0_18 ffX0_2 (by decide) rfl (fun _ => ⟨rfl, rfl⟩) (Nat.le_of_ble_eq_true rfl) rfl rfl ?_
  refine G_iconst (v := 0) dX0_init_28 (by decide) ?_
  refine G_istore_n (l2 := [.ref 1, .int 0]) dX0_init_29 rfl (by decide) rfl ?_
  have L : ∀ i, i ≤ 6 → GX YX0_init (d + 1) 30 [.ref 1, .int (nI i)] [] 5 (hov hp [(1, .inr (0, [.ref 2, .ref 3, .ref 4, .int 0, .int 0, .int 0, .int 0, .int 0])), (2, .inl (false, 6, (fl (-6) i))), (3, .inl (false, 6, (fun _ => 0))), (4, .inl (false, 6, (fl 5 i)))]) 0 0 (fun n' h => n' = 5 ∧ h = hov hp [(1, .inr (0, [.ref 2, .ref 3, .ref 4, .int 0, .int 0, .int 0, .int 2, .int 0])), (2, .inl (false, 6, (fl (-6) 6))), (3, .inl (false, 6, (fun _ => 0))), (4, .inl (false, 6, (fl 5 6)))]) := by
    refine down 6 ?_ ?_
    · refine G_iload_n dX0_init_30 rfl ?_
      refine G_bipush (v := 6) dX0_init_31 (by decide) ?_
      refine G_icmp_ge (tgt := 57) dX0_init_33 (by decide) (fun _ => ?_) (fun c => absurd (by decide) c)
      refine G_aload_n dX0_init_57 rfl ?_
      refine G_iconst (v := 2) dX0_init_58 (by decide) ?_
      refine G_put (fs2 := [.ref 2, .ref 3, .ref 4, .int 0, .int 0, .int 0, .int 2, .int 0]) (L2 := [(1, .inr (0, [.ref 2, .ref 3, .ref 4, .int 0, .int 0, .int 0, .int 2, .int 0])), (2, .inl (false, 6, (fl (-6) 6))), (3, .inl (false, 6, (fun _ => 0))), (4, .inl (false, 6, (fl 5 6)))]) dX0_init_59 fX0_21 fpX0_6 (by decide) rfl (fun _ => ⟨rfl, rfl⟩) (Nat.le_of_ble_eq_true rfl) rfl rfl ?_
      exact G_ret dX0_init_62 rfl rfl
    · intro i hi ih
      refine G_iload_n dX0_init_30 rfl ?_
      refine G_bipush (v := 6) dX0_init_31 (by decide) ?_
      refine G_icmp_ge (tgt := 57) dX0_init_33 (by decide) (fun c => absurd c (cI_nle (n := 6) rfl hi (by decide))) (fun _ => ?_)
      refine G_aload_n dX0_init_36 rfl ?_
      refine G_get dX0_init_37 fX0_9 (by decide) rfl rfl ?_
      refine G_iload_n dX0_init_40 rfl ?_
      refine G_bipush (v := (-6)) dX0_init_41 (by decide) ?_
      refine G_iast (j := i) (f2 := fl (-6) (i + 1)) (L2 := [(1, .inr (0, [.ref 2, .ref 3, .ref 4, .int 0, .int 0, .int 0, .int 0, .int 0])), (2, .inl (false, 6, (fl (-6) (i + 1)))), (3, .inl (false, 6, (fun _ => 0))), (4, .inl (false, 6, (fl 5 i)))]) dX0_init_43 (by decide) rfl (by omega) (by decide) (fl_s _ _) rfl ?_
      refine G_aload_n dX0_init_44 rfl ?_
      refine G_get dX0_init_45 fX0_18 (by decide) rfl rfl ?_
      refine G_iload_n dX0_init_48 rfl ?_
      refine G_iconst (v := 5) dX0_init_49 (by decide) ?_
      refine G_iast (j := i) (f2 := fl 5 (i + 1)) (L2 := [(1, .inr (0, [.ref 2, .ref 3, .ref 4, .int 0, .int 0, .int 0, .int 0, .int 0])), (2, .inl (false, 6, (fl (-6) (i + 1)))), (3, .inl (false, 6, (fun _ => 0))), (4, .inl (false, 6, (fl 5 (i + 1))))]) dX0_init_50 (by decide) rfl (by omega) (by decide) (fl_s _ _) rfl ?_
      refine G_iinc (y := nI (i + 1)) (l2 := [.ref 1, .int (nI (i + 1))]) dX0_init_51 rfl (nI_1 _) (by decide) rfl ?_
      refine G_goto (tgt := 30) dX0_init_54 (by decide) ?_
      exact ih
  have h := L 0 (by decide)
  rw [fl_0, fl_0] at h
  exact h
set_option maxHeartbeats 4000000 in
set_option maxRecDepth 20000 in
theorem g_X0_11 (d : Nat) : GC YX0_init (d + 1) [.ref 11, .null] 12 [(11, .inr (0, [.null, .null, .null, .int 0, .int 0, .int 0, .int 0, .int 0]))] 3 18 15 [(11, .inr (0, [.ref 12, .ref 13, .ref 14, .int 0, .int 0, .int 0, .int 2, .int 0])), (12, .inl (false, 6, (fl (-6) 6))), (13, .inl (false, 6, (fun _ => 0))), (14, .inl (false, 6, (fl 5 6)))] := by
  intro hp
  show GX YX0_init (d + 1) 0 [.ref 11, .null] [] 12 (hov hp [(11, .inr (0, [.null, .null, .null, .int 0, .int 0, .int 0, .int 0, .int 0]))]) 3 18 (fun n' h => n' = 15 ∧ h = hov hp [(11, .inr (0, [.ref 12, .ref 13, .ref 14, .int 0, .int 0, .int 0, .int 2, .int 0])), (12, .inl (false, 6, (fl (-6) 6))), (13, .inl (false, 6, (fun _ => 0))), (14, .inl (false, 6, (fl 5 6)))])
  refine G_aload_n dX0_init_0 rfl ?_
  refine G_oinit dX0_init_1 oX0 oinit_in (Nat.le_of_ble_eq_true rfl) ?_
  refine G_aload_n dX0_init_4 rfl ?_
  refine G_bipush (v := 6) dX0_init_5 (by decide) ?_
  refine G_newai (kn := 12) (N := 6) (kc := 2) (ks := 12) (L2 := [(11, .inr (0, [.null, .null, .null, .int 0, .int 0, .int 0, .int 0, .int 0])), (12, .inl (false, 6, (fun _ => 0)))]) dX0_init_7 ar_i (by decide) (by decide) (by decide) (by decide) rfl ?_
  refine G_putF (fs2 := [.ref 12, .null, .null, .int 0, .int 0, .int 0, .int 0, .int 0]) (L2 := [(11, .inr (0, [.ref 12, .null, .null, .int 0, .int 0, .int 0, .int 0, .int 0])), (12, .inl (false, 6, (fun _ => 0)))]) dX0_init_9 fX0_9 ffX0_0 (by decide) rfl (fun _ => ⟨rfl, rfl⟩) (Nat.le_of_ble_eq_true rfl) rfl rfl ?_
  refine G_aload_n dX0_init_12 rfl ?_
  refine G_bipush (v := 6) dX0_init_13 (by decide) ?_
  refine G_newai (kn := 13) (N := 6) (kc := 1) (ks := 6) (L2 := [(11, .inr (0, [.ref 12, .null, .null, .int 0, .int 0, .int 0, .int 0, .int 0])), (12, .inl (false, 6, (fun _ => 0))), (13, .inl (false, 6, (fun _ => 0)))]) dX0_init_15 ar_i (by decide) (by decide) (by decide) (by decide) rfl ?_
  refine G_putF (fs2 := [.ref 12, .ref 13, .null, .int 0, .int 0, .int 0, .int 0, .int 0]) (L2 := [(11, .inr (0, [.ref 12, .ref 13, .null, .int 0, .int 0, .int 0, .int 0, .int 0])), (12, .inl (false, 6, (fun _ => 0))), (13, .inl (false, 6, (fun _ => 0)))]) dX0_init_17 fX0_15 ffX0_1 (by decide) rfl (fun _ => ⟨rfl, rfl⟩) (Nat.le_of_ble_eq_true rfl) rfl rfl ?_
  refine G_aload_n dX0_init_20 rfl ?_
  refine G_bipush (v := 6) dX0_init_21 (by decide) ?_
  refine G_newai (kn := 14) (N := 6) (kc := 0) (ks := 0) (L2 := [(11, .inr (0, [.ref 12, .ref 13, .null, .int 0, .int 0, .int 0, .int 0, .int 0])), (12, .inl (false, 6, (fun _ => 0))), (13, .inl (false, 6, (fun _ => 0))), (14, .inl (false, 6, (fun _ => 0)))]) dX0_init_23 ar_i (by decide) (by decide) (by decide) (by decide) rfl ?_
  refine G_putF (fs2 := [.ref 12, .ref 13, .ref 14, .int 0, .int 0, .int 0, .int 0, .int 0]) (L2 := [(11, .inr (0, [.ref 12, .ref 13, .ref 14, .int 0, .int 0, .int 0, .int 0, .int 0])), (12, .inl (false, 6, (fun _ => 0))), (13, .inl (false, 6, (fun _ => 0))), (14, .inl (false, 6, (fun _ => 0)))]) dX0_init_25 fX0_18 ffX0_2 (by decide) rfl (fun _ => ⟨rfl, rfl⟩) (Nat.le_of_ble_eq_true rfl) rfl rfl ?_
  refine G_iconst (v := 0) dX0_init_28 (by decide) ?_
  refine G_istore_n (l2 := [.ref 11, .int 0]) dX0_init_29 rfl (by decide) rfl ?_
  have L : ∀ i, i ≤ 6 → GX YX0_init (d + 1) 30 [.ref 11, .int (nI i)] [] 15 (hov hp [(11, .inr (0, [.ref 12, .ref 13, .ref 14, .int 0, .int 0, .int 0, .int 0, .int 0])), (12, .inl (false, 6, (fl (-6) i))), (13, .inl (false, 6, (fun _ => 0))), (14, .inl (false, 6, (fl 5 i)))]) 0 0 (fun n' h => n' = 15 ∧ h = hov hp [(11, .inr (0, [.ref 12, .ref 13, .ref 14, .int 0, .int 0, .int 0, .int 2, .int 0])), (12, .inl (false, 6, (fl (-6) 6))), (13, .inl (false, 6, (fun _ => 0))), (14, .inl (false, 6, (fl 5 6)))]) := by
    refine down 6 ?_ ?_
    · refine G_iload_n dX0_init_30 rfl ?_
      refine G_bipush (v := 6) dX0_init_31 (by decide) ?_
      refine G_icmp_ge (tgt := 57) dX0_init_33 (by decide) (fun _ => ?_) (fun c => absurd (by decide) c)
      refine G_aload_n dX0_init_57 rfl ?_
      refine G_iconst (v := 2) dX0_init_58 (by decide) ?_
      refine G_put (fs2 := [.ref 12, .ref 13, .ref 14, .int 0, .int 0, .int 0, .int 2, .int 0]) (L2 := [(11, .inr (0, [.ref 12, .ref 13, .ref 14, .int 0, .int 0, .int 0, .int 2, .int 0])), (12, .inl (false, 6, (fl (-6) 6))), (13, .inl (false, 6, (fun _ => 0))), (14, .inl (false, 6, (fl 5 6)))]) dX0_init_59 fX0_21 fpX0_6 (by decide) rfl (fun _ => ⟨rfl, rfl⟩) (Nat.le_of_ble_eq_true rfl) rfl rfl ?_
      exact G_ret dX0_init_62 rfl rfl
    · intro i hi ih
      refine G_iload_n dX0_init_30 rfl ?_
      refine G_bipush (v := 6) dX0_init_31 (by decide) ?_
      refine G_icmp_ge (tgt := 57) dX0_init_33 (by decide) (fun c => absurd c (cI_nle (n := 6) rfl hi (by decide))) (fun _ => ?_)
      refine G_aload_n dX0_init_36 rfl ?_
      refine G_get dX0_init_37 fX0_9 (by decide) rfl rfl ?_
      refine G_iload_n dX0_init_40 rfl ?_
      refine G_bipush (v := (-6)) dX0_init_41 (by decide) ?_
      refine G_iast (j := i) (f2 := fl (-6) (i + 1)) (L2 := [(11, .inr (0, [.ref 12, .ref 13, .ref 14, .int 0, .int 0, .int 0, .int 0, .int 0])), (12, .inl (false, 6, (fl (-6) (i + 1)))), (13, .inl (false, 6, (fun _ => 0))), (14, .inl (false, 6, (fl 5 i)))]) dX0_init_43 (by decide) rfl (by omega) (by decide) (fl_s _ _) rfl ?_
      refine G_aload_n dX0_init_44 rfl ?_
      refine G_get dX0_init_45 fX0_18 (by decide) rfl rfl ?_
      refine G_iload_n dX0_init_48 rfl ?_
      refine G_iconst (v := 5) dX0_init_49 (by decide) ?_
      refine G_iast (j := i) (f2 := fl 5 (i + 1)) (L2 := [(11, .inr (0, [.ref 12, .ref 13, .ref 14, .int 0, .int 0, .int 0, .int 0, .int 0])), (12, .inl (false, 6, (fl (-6) (i + 1)))), (13, .inl (false, 6, (fun _ => 0))), (14, .inl (false, 6, (fl 5 (i + 1))))]) dX0_init_50 (by decide) rfl (by omega) (by decide) (fl_s _ _) rfl ?_
      refine G_iinc (y := nI (i + 1)) (l2 := [.ref 11, .int (nI (i + 1))]) dX0_init_51 rfl (nI_1 _) (by decide) rfl ?_
      refine G_goto (tgt := 30) dX0_init_54 (by decide) ?_
      exact ih
  have h := L 0 (by decide)
  rw [fl_0, fl_0] at h
  exact h
set_option maxHeartbeats 4000000 in
set_option maxRecDepth 20000 in
theorem g_X0_19 (d : Nat) : GC YX0_init (d + 1) [.ref 19, .null] 20 [(19, .inr (0, [.null, .null, .null, .int 0, .int 0, .int 0, .int 0, .int 0]))] 3 18 23 [(19, .inr (0, [.ref 20, .ref 21, .ref 22, .int 0, .int 0, .int 0, .int 2, .int 0])), (20, .inl (false, 6, (fl (-6) 6))), (21, .inl (false, 6, (fun _ => 0))), (22, .inl (false, 6, (fl 5 6)))] := by
  intro hp
  show GX YX0_init (d + 1) 0 [.ref 19, .null] [] 20 (hov hp [(19, .inr (0, [.null, .null, .null, .int 0, .int 0, .int 0, .int 0, .int 0]))]) 3 18 (fun n' h => n' = 23 ∧ h = hov hp [(19, .inr (0, [.ref 20, .ref 21, .ref 22, .int 0, .int 0, .int 0, .int 2, .int 0])), (20, .inl (false, 6, (fl (-6) 6))), (21, .inl (false, 6, (fun _ => 0))), (22, .inl (false, 6, (fl 5 6)))])
  refine G_aload_n dX0_init_0 rfl ?_
  refine G_oinit dX0_init_1 oX0 oinit_in (Nat.le_of_ble_eq_true rfl) ?_
  refine G_aload_n dX0_init_4 rfl ?_
  refine G_bipush (v := 6) dX0_init_5 (by decide) ?_
  refine G_newai (kn := 20) (N := 6) (kc := 2) (ks := 12) (L2 := [(19, .inr (0, [.null, .null, .null, .int 0, .int 0, .int 0, .int 0, .int 0])), (20, .inl (false, 6, (fun _ => 0)))]) dX0_init_7 ar_i (by decide) (by decide) (by decide) (by decide) rfl ?_
  refine G_putF (fs2 := [.ref 20, .null, .null, .int 0, .int 0, .int 0, .int 0, .int 0]) (L2 := [(19, .inr (0, [.ref 20, .null, .null, .int 0, .int 0, .int 0, .int 0, .int 0])), (20, .inl (false, 6, (fun _ => 0)))]) dX0_init_9 fX0_9 ffX0_0 (by decide) rfl (fun _ => ⟨rfl, rfl⟩) (Nat.le_of_ble_eq_true rfl) rfl rfl ?_
  refine G_aload_n dX0_init_12 rfl ?_
  refine G_bipush (v := 6) dX0_init_13 (by decide) ?_
  refine G_newai (kn := 21) (N := 6) (kc := 1) (ks := 6) (L2 := [(19, .inr (0, [.ref 20, .null, .null, .int 0, .int 0, .int 0, .int 0, .int 0])), (20, .inl (false, 6, (fun _ => 0))), (21, .inl (false, 6, (fun _ => 0)))]) dX0_init_15 ar_i (by decide) (by decide) (by decide) (by decide) rfl ?_
  refine G_putF (fs2 := [.ref 20, .ref 21, .null, .int 0, .int 0, .int 0, .int 0, .int 0]) (L2 := [(19, .inr (0, [.ref 20, .ref 21, .null, .int 0, .int 0, .int 0, .int 0, .int 0])), (20, .inl (false, 6, (fun _ => 0))), (21, .inl (false, 6, (fun _ => 0)))]) dX0_init_17 fX0_15 ffX0_1 (by decide) rfl (fun _ => ⟨rfl, rfl⟩) (Nat.le_of_ble_eq_true rfl) rfl rfl ?_
  refine G_aload_n dX0_init_20 rfl ?_
  refine G_bipush (v := 6) dX0_init_21 (by decide) ?_
  refine G_newai (kn := 22) (N := 6) (kc := 0) (ks := 0) (L2 := [(19, .inr (0, [.ref 20, .ref 21, .null, .int 0, .int 0, .int 0, .int 0, .int 0])), (20, .inl (false, 6, (fun _ => 0))), (21, .inl (false, 6, (fun _ => 0))), (22, .inl (false, 6, (fun _ => 0)))]) dX0_init_23 ar_i (by decide) (by decide) (by decide) (by decide) rfl ?_
  refine G_putF (fs2 := [.ref 20, .ref 21, .ref 22, .int 0, .int 0, .int 0, .int 0, .int 0]) (L2 := [(19, .inr (0, [.ref 20, .ref 21, .ref 22, .int 0, .int 0, .int 0, .int 0, .int 0])), (20, .inl (false, 6, (fun _ => 0))), (21, .inl (false, 6, (fun _ => 0))), (22, .inl (false, 6, (fun _ => 0)))]) dX0_init_25 fX0_18 ffX0_2 (by decide) rfl (fun _ => ⟨rfl, rfl⟩) (Nat.le_of_ble_eq_true rfl) rfl rfl ?_
  refine G_iconst (v := 0) dX0_init_28 (by decide) ?_
  refine G_istore_n (l2 := [.ref 19, .int 0]) dX0_init_29 rfl (by decide) rfl ?_
  have L : ∀ i, i ≤ 6 → GX YX0_init (d + 1) 30 [.ref 19, .int (nI i)] [] 23 (hov hp [(19, .inr (0, [.ref 20, .ref 21, .ref 22, .int 0, .int 0, .int 0, .int 0, .int 0])), (20, .inl (false, 6, (fl (-6) i))), (21, .inl (false, 6, (fun _ => 0))), (22, .inl (false, 6, (fl 5 i)))]) 0 0 (fun n' h => n' = 23 ∧ h = hov hp [(19, .inr (0, [.ref 20, .ref 21, .ref 22, .int 0, .int 0, .int 0, .int 2, .int 0])), (20, .inl (false, 6, (fl (-6) 6))), (21, .inl (false, 6, (fun _ => 0))), (22, .inl (false, 6, (fl 5 6)))]) := by
    refine down 6 ?_ ?_
    · refine G_iload_n dX0_init_30 rfl ?_
      refine G_bipush (v := 6) dX0_init_31 (by decide) ?_
      refine G_icmp_ge (tgt := 57) dX0_init_33 (by decide) (fun _ => ?_) (fun c => absurd (by decide) c)
      refine G_aload_n dX0_init_57 rfl ?_
      refine G_iconst (v := 2) dX0_init_58 (by decide) ?_
      refine G_put (fs2 := [.ref 20, .ref 21, .ref 22, .int 0, .int 0, .int 0, .int 2, .int 0]) (L2 := [(19, .inr (0, [.ref 20, .ref 21, .ref 22, .int 0, .int 0, .int 0, .int 2, .int 0])), (20, .inl (false, 6, (fl (-6) 6))), (21, .inl (false, 6, (fun _ => 0))), (22, .inl (false, 6, (fl 5 6)))]) dX0_init_59 fX0_21 fpX0_6 (by decide) rfl (fun _ => ⟨rfl, rfl⟩) (Nat.le_of_ble_eq_true rfl) rfl rfl ?_
      exact G_ret dX0_init_62 rfl rfl
    · intro i hi ih
      refine G_iload_n dX0_init_30 rfl ?_
      refine G_bipush (v := 6) dX0_init_31 (by decide) ?_
      refine G_icmp_ge (tgt := 57) dX0_init_33 (by decide) (fun c => absurd c (cI_nle (n := 6) rfl hi (by decide))) (fun _ => ?_)
      refine G_aload_n dX0_init_36 rfl ?_
      refine G_get dX0_init_37 fX0_9 (by decide) rfl rfl ?_
      refine G_iload_n dX0_init_40 rfl ?_
      refine G_bipush (v := (-6)) dX0_init_41 (by decide) ?_
      refine G_iast (j := i) (f2 := fl (-6) (i + 1)) (L2 := [(19, .inr (0, [.ref 20, .ref 21, .ref 22, .int 0, .int 0, .int 0, .int 0, .int 0])), (20, .inl (false, 6, (fl (-6) (i + 1)))), (21, .inl (false, 6, (fun _ => 0))), (22, .inl (false, 6, (fl 5 i)))]) dX0_init_43 (by decide) rfl (by omega) (by decide) (fl_s _ _) rfl ?_
      refine G_aload_n dX0_init_44 rfl ?_
      refine G_get dX0_init_45 fX0_18 (by decide) rfl rfl ?_
      refine G_iload_n dX0_init_48 rfl ?_
      refine G_iconst (v := 5) dX0_init_49 (by decide) ?_
      refine G_iast (j := i) (f2 := fl 5 (i + 1)) (L2 := [(19, .inr (0, [.ref 20, .ref 21, .ref 22, .int 0, .int 0, .int 0, .int 0, .int 0])), (20, .inl (false, 6, (fl (-6) (i + 1)))), (21, .inl (false, 6, (fun _ => 0))), (22, .inl (false, 6, (fl 5 (i + 1))))]) dX0_init_50 (by decide) rfl (by omega) (by decide) (fl_s _ _) rfl ?_
      refine G_iinc (y := nI (i + 1)) (l2 := [.ref 19, .int (nI (i + 1))]) dX0_init_51 rfl (nI_1 _) (by decide) rfl ?_
      refine G_goto (tgt := 30) dX0_init_54 (by decide) ?_
      exact ih
  have h := L 0 (by decide)
  rw [fl_0, fl_0] at h
  exact h
set_option maxHeartbeats 4000000 in
set_option maxRecDepth 20000 in
theorem g_X0_27 (d : Nat) : GC YX0_init (d + 1) [.ref 27, .null] 28 [(27, .inr (0, [.null, .null, .null, .int 0, .int 0, .int 0, .int 0, .int 0]))] 3 18 31 [(27, .inr (0, [.ref 28, .ref 29, .ref 30, .int 0, .int 0, .int 0, .int 2, .int 0])), (28, .inl (false, 6, (fl (-6) 6))), (29, .inl (false, 6, (fun _ => 0))), (30, .inl (false, 6, (fl 5 6)))] := by
  intro hp
  show GX YX0_init (d + 1) 0 [.ref 27, .null] [] 28 (hov hp [(27, .inr (0, [.null, .null, .null, .int 0, .int 0, .int 0, .int 0, .int 0]))]) 3 18 (fun n' h => n' = 31 ∧ h = hov hp [(27, .inr (0, [.ref 28, .ref 29, .ref 30, .int 0, .int 0, .int 0, .int 2, .int 0])), (28, .inl (false, 6, (fl (-6) 6))), (29, .inl (false, 6, (fun _ => 0))), (30, .inl (false, 6, (fl 5 6)))])
  refine G_aload_n dX0_init_0 rfl ?_
  refine G_oinit dX0_init_1 oX0 oinit_in (Nat.le_of_ble_eq_true rfl) ?_
  refine G_aload_n dX0_init_4 rfl ?_
  refine G_bipush (v := 6) dX0_init_5 (by decide) ?_
  refine G_newai (kn := 28) (N := 6) (kc := 2) (ks := 12) (L2 := [(27, .inr (0, [.null, .null, .null, .int 0, .int 0, .int 0, .int 0, .int 0])), (28, .inl (false, 6, (fun _ => 0)))]) dX0_init_7 ar_i (by decide) (by decide) (by decide) (by decide) rfl ?_
  refine G_putF (fs2 := [.ref 28, .null, .null, .int 0, .int 0, .int 0, .int 0, .int 0]) (L2 := [(27, .inr (0, [.ref 28, .null, .null, .int 0, .int 0, .int 0, .int 0, .int 0])), (28, .inl (false, 6, (fun _ => 0)))]) dX0_init_9 fX0_9 ffX0_0 (by decide) rfl (fun _ => ⟨rfl, rfl⟩) (Nat.le_of_ble_eq_true rfl) rfl rfl ?_
  refine G_aload_n dX0_init_12 rfl ?_
  refine G_bipush (v := 6) dX0_init_13 (by decide) ?_
  refine G_newai (kn := 29) (N := 6) (kc := 1) (ks := 6) (L2 := [(27, .inr (0, [.ref 28, .null, .null, .int 0, .int 0, .int 0, .int 0, .int 0])), (28, .inl (false, 6, (fun _ => 0))), (29, .inl (false, 6, (fun _ => 0)))]) dX0_init_15 ar_i (by decide) (by decide) (by decide) (by decide) rfl ?_
  refine G_putF (fs2 := [.ref 28, .ref 29, .null, .int 0, .int 0, .int 0, .int 0, .int 0]) (L2 := [(27, .inr (0, [.ref 28, .ref 29, .null, .int 0, .int 0, .int 0, .int 0, .int 0])), (28, .inl (false, 6, (fun _ => 0))), (29, .inl (false, 6, (fun _ => 0)))]) dX0_init_17 fX0_15 ffX0_1 (by decide) rfl (fun _ => ⟨rfl, rfl⟩) (Nat.le_of_ble_eq_true rfl) rfl rfl ?_
  refine G_aload_n dX0_init_20 rfl ?_
  refine G_bipush (v := 6) dX0_init_21 (by decide) ?_
  refine G_newai (kn := 30) (N := 6) (kc := 0) (ks := 0) (L2 := [(27, .inr (0, [.ref 28, .ref 29, .null, .int 0, .int 0, .int 0, .int 0, .int 0])), (28, .inl (false, 6, (fun _ => 0))), (29, .inl (false, 6, (fun _ => 0))), (30, .inl (false, 6, (fun _ => 0)))]) dX0_init_23 ar_i (by decide) (by decide) (by decide) (by decide) rfl ?_
  refine G_putF (fs2 := [.ref 28, .ref 29, .ref 30, .int 0, .int 0, .int 0, .int 0, .int 0]) (L2 := [(27, .inr (0, [.ref 28, .ref 29, .ref 30, .int 0, .int 0, .int 0, .int 0, .int 0])), (28, .inl (false, 6, (fun _ => 0))), (29, .inl (false, 6, (fun _ => 0))), (30, .inl (false, 6, (fun _ => 0)))]) dX0_init_25 fX0_18 ffX0_2 (by decide) rfl (fun _ => ⟨rfl, rfl⟩) (Nat.le_of_ble_eq_true rfl) rfl rfl ?_
  refine G_iconst (v := 0) dX0_init_28 (by decide) ?_
  refine G_istore_n (l2 := [.ref 27, .int 0]) dX0_init_29 rfl (by decide) rfl ?_
  have L : ∀ i, i ≤ 6 → GX YX0_init (d + 1) 30 [.ref 27, .int (nI i)] [] 31 (hov hp [(27, .inr (0, [.ref 28, .ref 29, .ref 30, .int 0, .int 0, .int 0, .int 0, .int 0])), (28, .inl (false, 6, (fl (-6) i))), (29, .inl (false, 6, (fun _ => 0))), (30, .inl (false, 6, (fl 5 i)))]) 0 0 (fun n' h => n' = 31 ∧ h = hov hp [(27, .inr (0, [.ref 28, .ref 29, .ref 30, .int 0, .int 0, .int 0, .int 2, .int 0])), (28, .inl (false, 6, (fl (-6) 6))), (29, .inl (false, 6, (fun _ => 0))), (30, .inl (false, 6, (fl 5 6)))]) := by
    refine down 6 ?_ ?_
    · refine G_iload_n dX0_init_30 rfl ?_
      refine G_bipush (v := 6) dX0_init_31 (by decide) ?_
      refine G_icmp_ge (tgt := 57) dX0_init_33 (by decide) (fun _ => ?_) (fun c => absurd (by decide) c)
      refine G_aload_n dX0_init_57 rfl ?_
      refine G_iconst (v := 2) dX0_init_58 (by decide) ?_
      refine G_put (fs2 := [.ref 28, .ref 29, .ref 30, .int 0, .int 0, .int 0, .int 2, .int 0]) (L2 := [(27, .inr (0, [.ref 28, .ref 29, .ref 30, .int 0, .int 0, .int 0, .int 2, .int 0])), (28, .inl (false, 6, (fl (-6) 6))), (29, .inl (false, 6, (fun _ => 0))), (30, .inl (false, 6, (fl 5 6)))]) dX0_init_59 fX0_21 fpX0_6 (by decide) rfl (fun _ => ⟨rfl, rfl⟩) (Nat.le_of_ble_eq_true rfl) rfl rfl ?_
      exact G_ret dX0_init_62 rfl rfl
    · intro i hi ih
      refine G_iload_n dX0_init_30 rfl ?_
      refine G_bipush (v := 6) dX0_init_31 (by decide) ?_
      refine G_icmp_ge (tgt := 57) dX0_init_33 (by decide) (fun c => absurd c (cI_nle (n := 6) rfl hi (by decide))) (fun _ => ?_)
      refine G_aload_n dX0_init_36 rfl ?_
      refine G_get dX0_init_37 fX0_9 (by decide) rfl rfl ?_
      refine G_iload_n dX0_init_40 rfl ?_
      refine G_bipush (v := (-6)) dX0_init_41 (by decide) ?_
      refine G_iast (j := i) (f2 := fl (-6) (i + 1)) (L2 := [(27, .inr (0, [.ref 28, .ref 29, .ref 30, .int 0, .int 0, .int 0, .int 0, .int 0])), (28, .inl (false, 6, (fl (-6) (i + 1)))), (29, .inl (false, 6, (fun _ => 0))), (30, .inl (false, 6, (fl 5 i)))]) dX0_init_43 (by decide) rfl (by omega) (by decide) (fl_s _ _) rfl ?_
      refine G_aload_n dX0_init_44 rfl ?_
      refine G_get dX0_init_45 fX0_18 (by decide) rfl rfl ?_
      refine G_iload_n dX0_init_48 rfl ?_
      refine G_iconst (v := 5) dX0_init_49 (by decide) ?_
      refine G_iast (j := i) (f2 := fl 5 (i + 1)) (L2 := [(27, .inr (0, [.ref 28, .ref 29, .ref 30, .int 0, .int 0, .int 0, .int 0, .int 0])), (28, .inl (false, 6, (fl (-6) (i + 1)))), (29, .inl (false, 6, (fun _ => 0))), (30, .inl (false, 6, (fl 5 (i + 1))))]) dX0_init_50 (by decide) rfl (by omega) (by decide) (fl_s _ _) rfl ?_
      refine G_iinc (y := nI (i + 1)) (l2 := [.ref 27, .int (nI (i + 1))]) dX0_init_51 rfl (nI_1 _) (by decide) rfl ?_
      refine G_goto (tgt := 30) dX0_init_54 (by decide) ?_
      exact ih
  have h := L 0 (by decide)
  rw [fl_0, fl_0] at h
  exact h
set_option maxHeartbeats 4000000 in
set_option maxRecDepth 20000 in
theorem g_X4_7 (d : Nat) : GC YX4_init (d + 1) [.ref 7] 8 [(7, .inr (4, [.null, .null, .int 0]))] 2 16 10 [(7, .inr (4, [.ref 8, .ref 9, .int 0])), (8, .inl (false, 8, (fun _ => 0))), (9, .inl (false, 8, (fun _ => 0)))] := by
  intro hp
  show GX YX4_init (d + 1) 0 [.ref 7] [] 8 (hov hp [(7, .inr (4, [.null, .null, .int 0]))]) 2 16 (fun n' h => n' = 10 ∧ h = hov hp [(7, .inr (4, [.ref 8, .ref 9, .int 0])), (8, .inl (false, 8, (fun _ => 0))), (9, .inl (false, 8, (fun _ => 0)))])
  refine G_aload_n dX4_init_0 rfl ?_
  refine G_oinit dX4_init_1 oX4 oinit_in (Nat.le_of_ble_eq_true rfl) ?_
  refine G_aload_n dX4_init_4 rfl ?_
  refine G_bipush (v := 8) dX4_init_5 (by decide) ?_
  refine G_newai (kn := 8) (N := 8) (kc := 1) (ks := 8) (L2 := [(7, .inr (4, [.null, .null, .int 0])), (8, .inl (false, 8, (fun _ => 0)))]) dX4_init_7 ar_i (by decide) (by decide) (by decide) (by decide) rfl ?_
  refine G_putF (fs2 := [.ref 8, .null, .int 0]) (L2 := [(7, .inr (4, [.ref 8, .null, .int 0])), (8, .inl (false, 8, (fun _ => 0)))]) dX4_init_9 fX4_9 ffX4_0 (by decide) rfl (fun _ => ⟨rfl, rfl⟩) (Nat.le_of_ble_eq_true rfl) rfl rfl ?_
  refine G_aload_n dX4_init_12 rfl ?_
  refine G_bipush (v := 8) dX4_init_13 (by decide) ?_
  refine G_newai (kn := 9) (N := 8) (kc := 0) (ks := 0) (L2 := [(7, .inr (4, [.ref 8, .null, .int 0])), (8, .inl (false, 8, (fun _ => 0))), (9, .inl (false, 8, (fun _ => 0)))]) dX4_init_15 ar_i (by decide) (by decide) (by decide) (by decide) rfl ?_
  refine G_putF (fs2 := [.ref 8, .ref 9, .int 0]) (L2 := [(7, .inr (4, [.ref 8, .ref 9, .int 0])), (8, .inl (false, 8, (fun _ => 0))), (9, .inl (false, 8, (fun _ => 0)))]) dX4_init_17 fX4_15 ffX4_1 (by decide) rfl (fun _ => ⟨rfl, rfl⟩) (Nat.le_of_ble_eq_true rfl) rfl rfl ?_
  exact G_ret dX4_init_20 rfl rfl
set_option maxHeartbeats 4000000 in
set_option maxRecDepth 20000 in
theorem g_X4_15 (d : Nat) : GC YX4_init (d + 1) [.ref 15] 16 [(15, .inr (4, [.null, .null, .int 0]))] 2 16 18 [(15, .inr (4, [.ref 16, .ref 17, .int 0])), (16, .inl (false, 8, (fun _ => 0))), (17, .inl (false, 8, (fun _ => 0)))] := by
  intro hp
  show GX YX4_init (d + 1) 0 [.ref 15] [] 16 (hov hp [(15, .inr (4, [.null, .null, .int 0]))]) 2 16 (fun n' h => n' = 18 ∧ h = hov hp [(15, .inr (4, [.ref 16, .ref 17, .int 0])), (16, .inl (false, 8, (fun _ => 0))), (17, .inl (false, 8, (fun _ => 0)))])
  refine G_aload_n dX4_init_0 rfl ?_
  refine G_oinit dX4_init_1 oX4 oinit_in (Nat.le_of_ble_eq_true rfl) ?_
  refine G_aload_n dX4_init_4 rfl ?_
  refine G_bipush (v := 8) dX4_init_5 (by decide) ?_
  refine G_newai (kn := 16) (N := 8) (kc := 1) (ks := 8) (L2 := [(15, .inr (4, [.null, .null, .int 0])), (16, .inl (false, 8, (fun _ => 0)))]) dX4_init_7 ar_i (by decide) (by decide) (by decide) (by decide) rfl ?_
  refine G_putF (fs2 := [.ref 16, .null, .int 0]) (L2 := [(15, .inr (4, [.ref 16, .null, .int 0])), (16, .inl (false, 8, (fun _ => 0)))]) dX4_init_9 fX4_9 ffX4_0 (by decide) rfl (fun _ => ⟨rfl, rfl⟩) (Nat.le_of_ble_eq_true rfl) rfl rfl ?_
  refine G_aload_n dX4_init_12 rfl ?_
  refine G_bipush (v := 8) dX4_init_13 (by decide) ?_
  refine G_newai (kn := 17) (N := 8) (kc := 0) (ks := 0) (L2 := [(15, .inr (4, [.ref 16, .null, .int 0])), (16, .inl (false, 8, (fun _ => 0))), (17, .inl (false, 8, (fun _ => 0)))]) dX4_init_15 ar_i (by decide) (by decide) (by decide) (by decide) rfl ?_
  refine G_putF (fs2 := [.ref 16, .ref 17, .int 0]) (L2 := [(15, .inr (4, [.ref 16, .ref 17, .int 0])), (16, .inl (false, 8, (fun _ => 0))), (17, .inl (false, 8, (fun _ => 0)))]) dX4_init_17 fX4_15 ffX4_1 (by decide) rfl (fun _ => ⟨rfl, rfl⟩) (Nat.le_of_ble_eq_true rfl) rfl rfl ?_
  exact G_ret dX4_init_20 rfl rfl
set_option maxHeartbeats 4000000 in
set_option maxRecDepth 20000 in
theorem g_X4_23 (d : Nat) : GC YX4_init (d + 1) [.ref 23] 24 [(23, .inr (4, [.null, .null, .int 0]))] 2 16 26 [(23, .inr (4, [.ref 24, .ref 25, .int 0])), (24, .inl (false, 8, (fun _ => 0))), (25, .inl (false, 8, (fun _ => 0)))] := by
  intro hp
  show GX YX4_init (d + 1) 0 [.ref 23] [] 24 (hov hp [(23, .inr (4, [.null, .null, .int 0]))]) 2 16 (fun n' h => n' = 26 ∧ h = hov hp [(23, .inr (4, [.ref 24, .ref 25, .int 0])), (24, .inl (false, 8, (fun _ => 0))), (25, .inl (false, 8, (fun _ => 0)))])
  refine G_aload_n dX4_init_0 rfl ?_
  refine G_oinit dX4_init_1 oX4 oinit_in (Nat.le_of_ble_eq_true rfl) ?_
  refine G_aload_n dX4_init_4 rfl ?_
  refine G_bipush (v := 8) dX4_init_5 (by decide) ?_
  refine G_newai (kn := 24) (N := 8) (kc := 1) (ks := 8) (L2 := [(23, .inr (4, [.null, .null, .int 0])), (24, .inl (false, 8, (fun _ => 0)))]) dX4_init_7 ar_i (by decide) (by decide) (by decide) (by decide) rfl ?_
  refine G_putF (fs2 := [.ref 24, .null, .int 0]) (L2 := [(23, .inr (4, [.ref 24, .null, .int 0])), (24, .inl (false, 8, (fun _ => 0)))]) dX4_init_9 fX4_9 ffX4_0 (by decide) rfl (fun _ => ⟨rfl, rfl⟩) (Nat.le_of_ble_eq_true rfl) rfl rfl ?_
  refine G_aload_n dX4_init_12 rfl ?_
  refine G_bipush (v := 8) dX4_init_13 (by decide) ?_
  refine G_newai (kn := 25) (N := 8) (kc := 0) (ks := 0) (L2 := [(23, .inr (4, [.ref 24, .null, .int 0])), (24, .inl (false, 8, (fun _ => 0))), (25, .inl (false, 8, (fun _ => 0)))]) dX4_init_15 ar_i (by decide) (by decide) (by decide) (by decide) rfl ?_
  refine G_putF (fs2 := [.ref 24, .ref 25, .int 0]) (L2 := [(23, .inr (4, [.ref 24, .ref 25, .int 0])), (24, .inl (false, 8, (fun _ => 0))), (25, .inl (false, 8, (fun _ => 0)))]) dX4_init_17 fX4_15 ffX4_1 (by decide) rfl (fun _ => ⟨rfl, rfl⟩) (Nat.le_of_ble_eq_true rfl) rfl rfl ?_
  exact G_ret dX4_init_20 rfl rfl
set_option maxHeartbeats 4000000 in
set_option maxRecDepth 20000 in
theorem g_X3_5 (d : Nat) : GC YX3_init (d + 1) [.ref 5] 6 [(5, .inr (3, [.null, .int 0]))] 1 60 7 [(5, .inr (3, [.ref 6, .int 0])), (6, .inl (false, 60, (fun _ => 0)))] := by
  intro hp
  show GX YX3_init (d + 1) 0 [.ref 5] [] 6 (hov hp [(5, .inr (3, [.null, .int 0]))]) 1 60 (fun n' h => n' = 7 ∧ h = hov hp [(5, .inr (3, [.ref 6, .int 0])), (6, .inl (false, 60, (fun _ => 0)))])
  refine G_aload_n dX3_init_0 rfl ?_
  refine G_oinit dX3_init_1 oX3 oinit_in (Nat.le_of_ble_eq_true rfl) ?_
  refine G_aload_n dX3_init_4 rfl ?_
  refine G_bipush (v := 60) dX3_init_5 (by decide) ?_
  refine G_newai (kn := 6) (N := 60) (kc := 0) (ks := 0) (L2 := [(5, .inr (3, [.null, .int 0])), (6, .inl (false, 60, (fun _ => 0)))]) dX3_init_7 ar_i (by decide) (by decide) (by decide) (by decide) rfl ?_
  refine G_putF (fs2 := [.ref 6, .int 0]) (L2 := [(5, .inr (3, [.ref 6, .int 0])), (6, .inl (false, 60, (fun _ => 0)))]) dX3_init_9 fX3_9 ffX3_0 (by decide) rfl (fun _ => ⟨rfl, rfl⟩) (Nat.le_of_ble_eq_true rfl) rfl rfl ?_
  exact G_ret dX3_init_12 rfl rfl
set_option maxHeartbeats 4000000 in
set_option maxRecDepth 20000 in
theorem g_X1_31 (d : Nat) : GC YX1_init (d + 1) [.ref 31] 32 [(31, .inr (1, [.null, .null]))] 2 16 34 [(31, .inr (1, [.ref 32, .ref 33])), (32, .inl (false, 8, (fun _ => 0))), (33, .inl (false, 8, (fun _ => 0)))] := by
  intro hp
  show GX YX1_init (d + 1) 0 [.ref 31] [] 32 (hov hp [(31, .inr (1, [.null, .null]))]) 2 16 (fun n' h => n' = 34 ∧ h = hov hp [(31, .inr (1, [.ref 32, .ref 33])), (32, .inl (false, 8, (fun _ => 0))), (33, .inl (false, 8, (fun _ => 0)))])
  refine G_aload_n dX1_init_0 rfl ?_
  refine G_oinit dX1_init_1 oX1 oinit_in (Nat.le_of_ble_eq_true rfl) ?_
  refine G_aload_n dX1_init_4 rfl ?_
  refine G_bipush (v := 8) dX1_init_5 (by decide) ?_
  refine G_newai (kn := 32) (N := 8) (kc := 1) (ks := 8) (L2 := [(31, .inr (1, [.null, .null])), (32, .inl (false, 8, (fun _ => 0)))]) dX1_init_7 ar_i (by decide) (by decide) (by decide) (by decide) rfl ?_
  refine G_putF (fs2 := [.ref 32, .null]) (L2 := [(31, .inr (1, [.ref 32, .null])), (32, .inl (false, 8, (fun _ => 0)))]) dX1_init_9 fX1_9 ffX1_0 (by decide) rfl (fun _ => ⟨rfl, rfl⟩) (Nat.le_of_ble_eq_true rfl) rfl rfl ?_
  refine G_aload_n dX1_init_12 rfl ?_
  refine G_bipush (v := 8) dX1_init_13 (by decide) ?_
  refine G_newai (kn := 33) (N := 8) (kc := 0) (ks := 0) (L2 := [(31, .inr (1, [.ref 32, .null])), (32, .inl (false, 8, (fun _ => 0))), (33, .inl (false, 8, (fun _ => 0)))]) dX1_init_15 ar_i (by decide) (by decide) (by decide) (by decide) rfl ?_
  refine G_putF (fs2 := [.ref 32, .ref 33]) (L2 := [(31, .inr (1, [.ref 32, .ref 33])), (32, .inl (false, 8, (fun _ => 0))), (33, .inl (false, 8, (fun _ => 0)))]) dX1_init_17 fX1_15 ffX1_1 (by decide) rfl (fun _ => ⟨rfl, rfl⟩) (Nat.le_of_ble_eq_true rfl) rfl rfl ?_
  exact G_ret dX1_init_20 rfl rfl
set_option maxHeartbeats 4000000 in
set_option maxRecDepth 20000 in
theorem g_X2_10 (d : Nat) : GC YX2_init (d + 2) [.ref 10] 11 [(10, .inr (2, [.null, .null, .int 0]))] 7 45 18 [(10, .inr (2, [.ref 11, .ref 15, .int 0])), (11, .inr (0, [.ref 12, .ref 13, .ref 14, .int 0, .int 0, .int 0, .int 2, .int 0])), (12, .inl (false, 6, (fl (-6) 6))), (13, .inl (false, 6, (fun _ => 0))), (14, .inl (false, 6, (fl 5 6))), (15, .inr (4, [.ref 16, .ref 17, .int 0])), (16, .inl (false, 8, (fun _ => 0))), (17, .inl (false, 8, (fun _ => 0)))] := by
  intro hp
  show GX YX2_init (d + 2) 0 [.ref 10] [] 11 (hov hp [(10, .inr (2, [.null, .null, .int 0]))]) 7 45 (fun n' h => n' = 18 ∧ h = hov hp [(10, .inr (2, [.ref 11, .ref 15, .int 0])), (11, .inr (0, [.ref 12, .ref 13, .ref 14, .int 0, .int 0, .int 0, .int 2, .int 0])), (12, .inl (false, 6, (fl (-6) 6))), (13, .inl (false, 6, (fun _ => 0))), (14, .inl (false, 6, (fl 5 6))), (15, .inr (4, [.ref 16, .ref 17, .int 0])), (16, .inl (false, 8, (fun _ => 0))), (17, .inl (false, 8, (fun _ => 0)))])
  refine G_aload_n dX2_init_0 rfl ?_
  refine G_oinit dX2_init_1 oX2 oinit_in (Nat.le_of_ble_eq_true rfl) ?_
  refine G_aload_n dX2_init_4 rfl ?_
  refine G_new (kn := 11) (kc := 6) (ks := 37) (L2 := [(10, .inr (2, [.null, .null, .int 0])), (11, .inr (0, [.null, .null, .null, .int 0, .int 0, .int 0, .int 0, .int 0]))]) dX2_init_5 CLX0 xcX2_7 xiX0 xnX0 dfX0 (by decide) rfl ?_
  refine G_dup dX2_init_8 rfl ?_
  refine G_ctor (Y' := YX0_init) (n2 := 15) (kc := 3) (ks := 19) (jc := 3) (js := 18) (L2 := [(10, .inr (2, [.null, .null, .int 0])), (11, .inr (0, [.ref 12, .ref 13, .ref 14, .int 0, .int 0, .int 0, .int 2, .int 0])), (12, .inl (false, 6, (fl (-6) 6))), (13, .inl (false, 6, (fun _ => 0))), (14, .inl (false, 6, (fl 5 6)))]) dX2_init_9 NX0 kX2_9 (g_X0_11 d) rfl rfl (Nat.le_of_ble_eq_true rfl) ?_
  refine G_putF (fs2 := [.ref 11, .null, .int 0]) (L2 := [(10, .inr (2, [.ref 11, .null, .int 0])), (11, .inr (0, [.ref 12, .ref 13, .ref 14, .int 0, .int 0, .int 0, .int 2, .int 0])), (12, .inl (false, 6, (fl (-6) 6))), (13, .inl (false, 6, (fun _ => 0))), (14, .inl (false, 6, (fl 5 6)))]) dX2_init_12 fX2_10 ffX2_0 (by decide) rfl (fun _ => ⟨rfl, rfl⟩) (Nat.le_of_ble_eq_true rfl) rfl rfl ?_
  refine G_aload_n dX2_init_15 rfl ?_
  refine G_new (kn := 15) (kc := 2) (ks := 16) (L2 := [(10, .inr (2, [.ref 11, .null, .int 0])), (11, .inr (0, [.ref 12, .ref 13, .ref 14, .int 0, .int 0, .int 0, .int 2, .int 0])), (12, .inl (false, 6, (fl (-6) 6))), (13, .inl (false, 6, (fun _ => 0))), (14, .inl (false, 6, (fl 5 6))), (15, .inr (4, [.null, .null, .int 0]))]) dX2_init_16 CLX4 xcX2_16 xiX4 xnX4 dfX4 (by decide) rfl ?_
  refine G_dup dX2_init_19 rfl ?_
  refine G_ctor (Y' := YX4_init) (n2 := 18) (kc := 0) (ks := 0) (jc := 2) (js := 16) (L2 := [(10, .inr (2, [.ref 11, .null, .int 0])), (11, .inr (0, [.ref 12, .ref 13, .ref 14, .int 0, .int 0, .int 0, .int 2, .int 0])), (12, .inl (false, 6, (fl (-6) 6))), (13, .inl (false, 6, (fun _ => 0))), (14, .inl (false, 6, (fl 5 6))), (15, .inr (4, [.ref 16, .ref 17, .int 0])), (16, .inl (false, 8, (fun _ => 0))), (17, .inl (false, 8, (fun _ => 0)))]) dX2_init_20 NX4 kX2_18 (g_X4_15 d) rfl rfl (Nat.le_of_ble_eq_true rfl) ?_
  refine G_putF (fs2 := [.ref 11, .ref 15, .int 0]) (L2 := [(10, .inr (2, [.ref 11, .ref 15, .int 0])), (11, .inr (0, [.ref 12, .ref 13, .ref 14, .int 0, .int 0, .int 0, .int 2, .int 0])), (12, .inl (false, 6, (fl (-6) 6))), (13, .inl (false, 6, (fun _ => 0))), (14, .inl (false, 6, (fl 5 6))), (15, .inr (4, [.ref 16, .ref 17, .int 0])), (16, .inl (false, 8, (fun _ => 0))), (17, .inl (false, 8, (fun _ => 0)))]) dX2_init_23 fX2_19 ffX2_1 (by decide) rfl (fun _ => ⟨rfl, rfl⟩) (Nat.le_of_ble_eq_true rfl) rfl rfl ?_
  exact G_ret dX2_init_26 rfl rfl
set_option maxHeartbeats 4000000 in
set_option maxRecDepth 20000 in
theorem g_X2_18 (d : Nat) : GC YX2_init (d + 2) [.ref 18] 19 [(18, .inr (2, [.null, .null, .int 0]))] 7 45 26 [(18, .inr (2, [.ref 19, .ref 23, .int 0])), (19, .inr (0, [.ref 20, .ref 21, .ref 22, .int 0, .int 0, .int 0, .int 2, .int 0])), (20, .inl (false, 6, (fl (-6) 6))), (21, .inl (false, 6, (fun _ => 0))), (22, .inl (false, 6, (fl 5 6))), (23, .inr (4, [.ref 24, .ref 25, .int 0])), (24, .inl (false, 8, (fun _ => 0))), (25, .inl (false, 8, (fun _ => 0)))] := by
  intro hp
  show GX YX2_init (d + 2) 0 [.ref 18] [] 19 (hov hp [(18, .inr (2, [.null, .null, .int 0]))]) 7 45 (fun n' h => n' = 26 ∧ h = hov hp [(18, .inr (2, [.ref 19, .ref 23, .int 0])), (19, .inr (0, [.ref 20, .ref 21, .ref 22, .int 0, .int 0, .int 0, .int 2, .int 0])), (20, .inl (false, 6, (fl (-6) 6))), (21, .inl (false, 6, (fun _ => 0))), (22, .inl (false, 6, (fl 5 6))), (23, .inr (4, [.ref 24, .ref 25, .int 0])), (24, .inl (false, 8, (fun _ => 0))), (25, .inl (false, 8, (fun _ => 0)))])
  refine G_aload_n dX2_init_0 rfl ?_
  refine G_oinit dX2_init_1 oX2 oinit_in (Nat.le_of_ble_eq_true rfl) ?_
  refine G_aload_n dX2_init_4 rfl ?_
  refine G_new (kn := 19) (kc := 6) (ks := 37) (L2 := [(18, .inr (2, [.null, .null, .int 0])), (19, .inr (0, [.null, .null, .null, .int 0, .int 0, .int 0, .int 0, .int 0]))]) dX2_init_5 CLX0 xcX2_7 xiX0 xnX0 dfX0 (by decide) rfl ?_
  refine G_dup dX2_init_8 rfl ?_
  refine G_ctor (Y' := YX0_init) (n2 := 23) (kc := 3) (ks := 19) (jc := 3) (js := 18) (L2 := [(18, .inr (2, [.null, .null, .int 0])), (19, .inr (0, [.ref 20, .ref 21, .ref 22, .int 0, .int 0, .int 0, .int 2, .int 0])), (20, .inl (false, 6, (fl (-6) 6))), (21, .inl (false, 6, (fun _ => 0))), (22, .inl (false, 6, (fl 5 6)))]) dX2_init_9 NX0 kX2_9 (g_X0_19 d) rfl rfl (Nat.le_of_ble_eq_true rfl) ?_
  refine G_putF (fs2 := [.ref 19, .null, .int 0]) (L2 := [(18, .inr (2, [.ref 19, .null, .int 0])), (19, .inr (0, [.ref 20, .ref 21, .ref 22, .int 0, .int 0, .int 0, .int 2, .int 0])), (20, .inl (false, 6, (fl (-6) 6))), (21, .inl (false, 6, (fun _ => 0))), (22, .inl (false, 6, (fl 5 6)))]) dX2_init_12 fX2_10 ffX2_0 (by decide) rfl (fun _ => ⟨rfl, rfl⟩) (Nat.le_of_ble_eq_true rfl) rfl rfl ?_
  refine G_aload_n dX2_init_15 rfl ?_
  refine G_new (kn := 23) (kc := 2) (ks := 16) (L2 := [(18, .inr (2, [.ref 19, .null, .int 0])), (19, .inr (0, [.ref 20, .ref 21, .ref 22, .int 0, .int 0, .int 0, .int 2, .int 0])), (20, .inl (false, 6, (fl (-6) 6))), (21, .inl (false, 6, (fun _ => 0))), (22, .inl (false, 6, (fl 5 6))), (23, .inr (4, [.null, .null, .int 0]))]) dX2_init_16 CLX4 xcX2_16 xiX4 xnX4 dfX4 (by decide) rfl ?_
  refine G_dup dX2_init_19 rfl ?_
  refine G_ctor (Y' := YX4_init) (n2 := 26) (kc := 0) (ks := 0) (jc := 2) (js := 16) (L2 := [(18, .inr (2, [.ref 19, .null, .int 0])), (19, .inr (0, [.ref 20, .ref 21, .ref 22, .int 0, .int 0, .int 0, .int 2, .int 0])), (20, .inl (false, 6, (fl (-6) 6))), (21, .inl (false, 6, (fun _ => 0))), (22, .inl (false, 6, (fl 5 6))), (23, .inr (4, [.ref 24, .ref 25, .int 0])), (24, .inl (false, 8, (fun _ => 0))), (25, .inl (false, 8, (fun _ => 0)))]) dX2_init_20 NX4 kX2_18 (g_X4_23 d) rfl rfl (Nat.le_of_ble_eq_true rfl) ?_
  refine G_putF (fs2 := [.ref 19, .ref 23, .int 0]) (L2 := [(18, .inr (2, [.ref 19, .ref 23, .int 0])), (19, .inr (0, [.ref 20, .ref 21, .ref 22, .int 0, .int 0, .int 0, .int 2, .int 0])), (20, .inl (false, 6, (fl (-6) 6))), (21, .inl (false, 6, (fun _ => 0))), (22, .inl (false, 6, (fl 5 6))), (23, .inr (4, [.ref 24, .ref 25, .int 0])), (24, .inl (false, 8, (fun _ => 0))), (25, .inl (false, 8, (fun _ => 0)))]) dX2_init_23 fX2_19 ffX2_1 (by decide) rfl (fun _ => ⟨rfl, rfl⟩) (Nat.le_of_ble_eq_true rfl) rfl rfl ?_
  exact G_ret dX2_init_26 rfl rfl
set_option maxHeartbeats 4000000 in
set_option maxRecDepth 20000 in
theorem g_X5_26 (d : Nat) : GC YX5_init (d + 2) [.ref 26] 27 [(26, .inr (5, [.null, .int 0, .int 0, .int 0, .int 0, .int 0, .int 0]))] 4 26 31 [(26, .inr (5, [.ref 27, .int 0, .int 0, .int 0, .int 0, .int 0, .int 0])), (27, .inr (0, [.ref 28, .ref 29, .ref 30, .int 0, .int 0, .int 0, .int 2, .int 0])), (28, .inl (false, 6, (fl (-6) 6))), (29, .inl (false, 6, (fun _ => 0))), (30, .inl (false, 6, (fl 5 6)))] := by
  intro hp
  show GX YX5_init (d + 2) 0 [.ref 26] [] 27 (hov hp [(26, .inr (5, [.null, .int 0, .int 0, .int 0, .int 0, .int 0, .int 0]))]) 4 26 (fun n' h => n' = 31 ∧ h = hov hp [(26, .inr (5, [.ref 27, .int 0, .int 0, .int 0, .int 0, .int 0, .int 0])), (27, .inr (0, [.ref 28, .ref 29, .ref 30, .int 0, .int 0, .int 0, .int 2, .int 0])), (28, .inl (false, 6, (fl (-6) 6))), (29, .inl (false, 6, (fun _ => 0))), (30, .inl (false, 6, (fl 5 6)))])
  refine G_aload_n dX5_init_0 rfl ?_
  refine G_oinit dX5_init_1 oX5 oinit_in (Nat.le_of_ble_eq_true rfl) ?_
  refine G_aload_n dX5_init_4 rfl ?_
  refine G_new (kn := 27) (kc := 3) (ks := 18) (L2 := [(26, .inr (5, [.null, .int 0, .int 0, .int 0, .int 0, .int 0, .int 0])), (27, .inr (0, [.null, .null, .null, .int 0, .int 0, .int 0, .int 0, .int 0]))]) dX5_init_5 CLX0 xcX5_9 xiX0 xnX0 dfX0 (by decide) rfl ?_
  refine G_dup dX5_init_8 rfl ?_
  refine G_ctor (Y' := YX0_init) (n2 := 31) (kc := 0) (ks := 0) (jc := 3) (js := 18) (L2 := [(26, .inr (5, [.null, .int 0, .int 0, .int 0, .int 0, .int 0, .int 0])), (27, .inr (0, [.ref 28, .ref 29, .ref 30, .int 0, .int 0, .int 0, .int 2, .int 0])), (28, .inl (false, 6, (fl (-6) 6))), (29, .inl (false, 6, (fun _ => 0))), (30, .inl (false, 6, (fl 5 6)))]) dX5_init_9 NX0 kX5_11 (g_X0_27 d) rfl rfl (Nat.le_of_ble_eq_true rfl) ?_
  refine G_putF (fs2 := [.ref 27, .int 0, .int 0, .int 0, .int 0, .int 0, .int 0]) (L2 := [(26, .inr (5, [.ref 27, .int 0, .int 0, .int 0, .int 0, .int 0, .int 0])), (27, .inr (0, [.ref 28, .ref 29, .ref 30, .int 0, .int 0, .int 0, .int 2, .int 0])), (28, .inl (false, 6, (fl (-6) 6))), (29, .inl (false, 6, (fun _ => 0))), (30, .inl (false, 6, (fl 5 6)))]) dX5_init_12 fX5_12 ffX5_0 (by decide) rfl (fun _ => ⟨rfl, rfl⟩) (Nat.le_of_ble_eq_true rfl) rfl rfl ?_
  exact G_ret dX5_init_15 rfl rfl
set_option maxHeartbeats 4000000 in
set_option maxRecDepth 20000 in
theorem g_X6_0 (d : Nat) : GC YX6_init (d + 3) [.ref 0] 1 [(0, .inr (6, [.null, .null, .null, .null, .null, .null, .null, .null, .null, .int 0]))] 35 364 36 [(0, .inr (6, [.ref 1, .ref 5, .ref 7, .ref 10, .ref 18, .ref 26, .ref 31, .ref 35, .ref 37, .int 1])), (1, .inr (0, [.ref 2, .ref 3, .ref 4, .int 0, .int 0, .int 0, .int 2, .int 0])), (2, .inl (false, 6, (fl (-6) 6))), (3, .inl (false, 6, (fun _ => 0))), (4, .inl (false, 6, (fl 5 6))), (5, .inr (3, [.ref 6, .int 0])), (6, .inl (false, 60, (fun _ => 0))), (7, .inr (4, [.ref 8, .ref 9, .int 0])), (8, .inl (false, 8, (fun _ => 0))), (9, .inl (false, 8, (fun _ => 0))), (10, .inr (2, [.ref 11, .ref 15, .int 0])), (11, .inr (0, [.ref 12, .ref 13, .ref 14, .int 0, .int 0, .int 0, .int 2, .int 0])), (12, .inl (false, 6, (fl (-6) 6))), (13, .inl (false, 6, (fun _ => 0))), (14, .inl (false, 6, (fl 5 6))), (15, .inr (4, [.ref 16, .ref 17, .int 0])), (16, .inl (false, 8, (fun _ => 0))), (17, .inl (false, 8, (fun _ => 0))), (18, .inr (2, [.ref 19, .ref 23, .int 0])), (19, .inr (0, [.ref 20, .ref 21, .ref 22, .int 0, .int 0, .int 0, .int 2, .int 0])), (20, .inl (false, 6, (fl (-6) 6))), (21, .inl (false, 6, (fun _ => 0))), (22, .inl (false, 6, (fl 5 6))), (23, .inr (4, [.ref 24, .ref 25, .int 0])), (24, .inl (false, 8, (fun _ => 0))), (25, .inl (false, 8, (fun _ => 0))), (26, .inr (5, [.ref 27, .int 0, .int 0, .int 0, .int 0, .int 0, .int 0])), (27, .inr (0, [.ref 28, .ref 29, .ref 30, .int 0, .int 0, .int 0, .int 2, .int 0])), (28, .inl (false, 6, (fl (-6) 6))), (29, .inl (false, 6, (fun _ => 0))), (30, .inl (false, 6, (fl 5 6))), (31, .inr (1, [.ref 32, .ref 33])), (32, .inl (false, 8, (fun _ => 0))), (33, .inl (false, 8, (fun _ => 0))), (35, .inl (false, 49, (fun _ => 0))), (37, .inl (false, 61, (fun _ => 0)))] := by
  intro hp
  show GX YX6_init (d + 3) 0 [.ref 0] [] 1 (hov hp [(0, .inr (6, [.null, .null, .null, .null, .null, .null, .null, .null, .null, .int 0]))]) 35 364 (fun n' h => n' = 36 ∧ h = hov hp [(0, .inr (6, [.ref 1, .ref 5, .ref 7, .ref 10, .ref 18, .ref 26, .ref 31, .ref 35, .ref 37, .int 1])), (1, .inr (0, [.ref 2, .ref 3, .ref 4, .int 0, .int 0, .int 0, .int 2, .int 0])), (2, .inl (false, 6, (fl (-6) 6))), (3, .inl (false, 6, (fun _ => 0))), (4, .inl (false, 6, (fl 5 6))), (5, .inr (3, [.ref 6, .int 0])), (6, .inl (false, 60, (fun _ => 0))), (7, .inr (4, [.ref 8, .ref 9, .int 0])), (8, .inl (false, 8, (fun _ => 0))), (9, .inl (false, 8, (fun _ => 0))), (10, .inr (2, [.ref 11, .ref 15, .int 0])), (11, .inr (0, [.ref 12, .ref 13, .ref 14, .int 0, .int 0, .int 0, .int 2, .int 0])), (12, .inl (false, 6, (fl (-6) 6))), (13, .inl (false, 6, (fun _ => 0))), (14, .inl (false, 6, (fl 5 6))), (15, .inr (4, [.ref 16, .ref 17, .int 0])), (16, .inl (false, 8, (fun _ => 0))), (17, .inl (false, 8, (fun _ => 0))), (18, .inr (2, [.ref 19, .ref 23, .int 0])), (19, .inr (0, [.ref 20, .ref 21, .ref 22, .int 0, .int 0, .int 0, .int 2, .int 0])), (20, .inl (false, 6, (fl (-6) 6))), (21, .inl (false, 6, (fun _ => 0))), (22, .inl (false, 6, (fl 5 6))), (23, .inr (4, [.ref 24, .ref 25, .int 0])), (24, .inl (false, 8, (fun _ => 0))), (25, .inl (false, 8, (fun _ => 0))), (26, .inr (5, [.ref 27, .int 0, .int 0, .int 0, .int 0, .int 0, .int 0])), (27, .inr (0, [.ref 28, .ref 29, .ref 30, .int 0, .int 0, .int 0, .int 2, .int 0])), (28, .inl (false, 6, (fl (-6) 6))), (29, .inl (false, 6, (fun _ => 0))), (30, .inl (false, 6, (fl 5 6))), (31, .inr (1, [.ref 32, .ref 33])), (32, .inl (false, 8, (fun _ => 0))), (33, .inl (false, 8, (fun _ => 0))), (35, .inl (false, 49, (fun _ => 0))), (37, .inl (false, 61, (fun _ => 0)))])
  refine G_aload_n dX6_init_0 rfl ?_
  refine G_oinit dX6_init_1 oX6 oinit_in (Nat.le_of_ble_eq_true rfl) ?_
  refine G_aload_n dX6_init_4 rfl ?_
  refine G_new (kn := 1) (kc := 34) (ks := 356) (L2 := [(0, .inr (6, [.null, .null, .null, .null, .null, .null, .null, .null, .null, .int 0])), (1, .inr (0, [.null, .null, .null, .int 0, .int 0, .int 0, .int 0, .int 0]))]) dX6_init_5 CLX0 xcX6_9 xiX0 xnX0 dfX0 (by decide) rfl ?_
  refine G_dup dX6_init_8 rfl ?_
  refine G_ctor (Y' := YX0_init) (n2 := 5) (kc := 31) (ks := 338) (jc := 3) (js := 18) (L2 := [(0, .inr (6, [.null, .null, .null, .null, .null, .null, .null, .null, .null, .int 0])), (1, .inr (0, [.ref 2, .ref 3, .ref 4, .int 0, .int 0, .int 0, .int 2, .int 0])), (2, .inl (false, 6, (fl (-6) 6))), (3, .inl (false, 6, (fun _ => 0))), (4, .inl (false, 6, (fl 5 6)))]) dX6_init_9 NX0 kX6_11 (g_X0_1 (d + 1)) rfl rfl (Nat.le_of_ble_eq_true rfl) ?_
  refine G_putF (fs2 := [.ref 1, .null, .null, .null, .null, .null, .null, .null, .null, .int 0]) (L2 := [(0, .inr (6, [.ref 1, .null, .null, .null, .null, .null, .null, .null, .null, .int 0])), (1, .inr (0, [.ref 2, .ref 3, .ref 4, .int 0, .int 0, .int 0, .int 2, .int 0])), (2, .inl (false, 6, (fl (-6) 6))), (3, .inl (false, 6, (fun _ => 0))), (4, .inl (false, 6, (fl 5 6)))]) dX6_init_12 fX6_12 ffX6_0 (by decide) rfl (fun _ => ⟨rfl, rfl⟩) (Nat.le_of_ble_eq_true rfl) rfl rfl ?_
  refine G_aload_n dX6_init_15 rfl ?_
  refine G_new (kn := 5) (kc := 30) (ks := 336) (L2 := [(0, .inr (6, [.ref 1, .null, .null, .null, .null, .null, .null, .null, .null, .int 0])), (1, .inr (0, [.ref 2, .ref 3, .ref 4, .int 0, .int 0, .int 0, .int 2, .int 0])), (2, .inl (false, 6, (fl (-6) 6))), (3, .inl (false, 6, (fun _ => 0))), (4, .inl (false, 6, (fl 5 6))), (5, .inr (3, [.null, .int 0]))]) dX6_init_16 CLX3 xcX6_16 xiX3 xnX3 dfX3 (by decide) rfl ?_
  refine G_dup dX6_init_19 rfl ?_
  refine G_ctor (Y' := YX3_init) (n2 := 7) (kc := 29) (ks := 276) (jc := 1) (js := 60) (L2 := [(0, .inr (6, [.ref 1, .null, .null, .null, .null, .null, .null, .null, .null, .int 0])), (1, .inr (0, [.ref 2, .ref 3, .ref 4, .int 0, .int 0, .int 0, .int 2, .int 0])), (2, .inl (false, 6, (fl (-6) 6))), (3, .inl (false, 6, (fun _ => 0))), (4, .inl (false, 6, (fl 5 6))), (5, .inr (3, [.ref 6, .int 0])), (6, .inl (false, 60, (fun _ => 0)))]) dX6_init_20 NX3 kX6_18 (g_X3_5 (d + 1)) rfl rfl (Nat.le_of_ble_eq_true rfl) ?_
  refine G_putF (fs2 := [.ref 1, .ref 5, .null, .null, .null, .null, .null, .null, .null, .int 0]) (L2 := [(0, .inr (6, [.ref 1, .ref 5, .null, .null, .null, .null, .null, .null, .null, .int 0])), (1, .inr (0, [.ref 2, .ref 3, .ref 4, .int 0, .int 0, .int 0, .int 2, .int 0])), (2, .inl (false, 6, (fl (-6) 6))), (3, .inl (false, 6, (fun _ => 0))), (4, .inl (false, 6, (fl 5 6))), (5, .inr (3, [.ref 6, .int 0])), (6, .inl (false, 60, (fun _ => 0)))]) dX6_init_23 fX6_19 ffX6_1 (by decide) rfl (fun _ => ⟨rfl, rfl⟩) (Nat.le_of_ble_eq_true rfl) rfl rfl ?_
  refine G_aload_n dX6_init_26 rfl ?_
  refine G_new (kn := 7) (kc := 28) (ks := 273) (L2 := [(0, .inr (6, [.ref 1, .ref 5, .null, .null, .null, .null, .null, .null, .null, .int 0])), (1, .inr (0, [.ref 2, .ref 3, .ref 4, .int 0, .int 0, .int 0, .int 2, .int 0])), (2, .inl (false, 6, (fl (-6) 6))), (3, .inl (false, 6, (fun _ => 0))), (4, .inl (false, 6, (fl 5 6))), (5, .inr (3, [.ref 6, .int 0])), (6, .inl (false, 60, (fun _ => 0))), (7, .inr (4, [.null, .null, .int 0]))]) dX6_init_27 CLX4 xcX6_23 xiX4 xnX4 dfX4 (by decide) rfl ?_
  refine G_dup dX6_init_30 rfl ?_
  refine G_ctor (Y' := YX4_init) (n2 := 10) (kc := 26) (ks := 257) (jc := 2) (js := 16) (L2 := [(0, .inr (6, [.ref 1, .ref 5, .null, .null, .null, .null, .null, .null, .null, .int 0])), (1, .inr (0, [.ref 2, .ref 3, .ref 4, .int 0, .int 0, .int 0, .int 2, .int 0])), (2, .inl (false, 6, (fl (-6) 6))), (3, .inl (false, 6, (fun _ => 0))), (4, .inl (false, 6, (fl 5 6))), (5, .inr (3, [.ref 6, .int 0])), (6, .inl (false, 60, (fun _ => 0))), (7, .inr (4, [.ref 8, .ref 9, .int 0])), (8, .inl (false, 8, (fun _ => 0))), (9, .inl (false, 8, (fun _ => 0)))]) dX6_init_31 NX4 kX6_25 (g_X4_7 (d + 1)) rfl rfl (Nat.le_of_ble_eq_true rfl) ?_
  refine G_putF (fs2 := [.ref 1, .ref 5, .ref 7, .null, .null, .null, .null, .null, .null, .int 0]) (L2 := [(0, .inr (6, [.ref 1, .ref 5, .ref 7, .null, .null, .null, .null, .null, .null, .int 0])), (1, .inr (0, [.ref 2, .ref 3, .ref 4, .int 0, .int 0, .int 0, .int 2, .int 0])), (2, .inl (false, 6, (fl (-6) 6))), (3, .inl (false, 6, (fun _ => 0))), (4, .inl (false, 6, (fl 5 6))), (5, .inr (3, [.ref 6, .int 0])), (6, .inl (false, 60, (fun _ => 0))), (7, .inr (4, [.ref 8, .ref 9, .int 0])), (8, .inl (false, 8, (fun _ => 0))), (9, .inl (false, 8, (fun _ => 0)))]) dX6_init_34 fX6_26 ffX6_2 (by decide) rfl (fun _ => ⟨rfl, rfl⟩) (Nat.le_of_ble_eq_true rfl) rfl rfl ?_
  refine G_aload_n dX6_init_37 rfl ?_
  refine G_new (kn := 10) (kc := 25) (ks := 254) (L2 := [(0, .inr (6, [.ref 1, .ref 5, .ref 7, .null, .null, .null, .null, .null, .null, .int 0])), (1, .inr (0, [.ref 2, .ref 3, .ref 4, .int 0, .int 0, .int 0, .int 2, .int 0])), (2, .inl (false, 6, (fl (-6) 6))), (3, .inl (false, 6, (fun _ => 0))), (4, .inl (false, 6, (fl 5 6))), (5, .inr (3, [.ref 6, .int 0])), (6, .inl (false, 60, (fun _ => 0))), (7, .inr (4, [.ref 8, .ref 9, .int 0])), (8, .inl (false, 8, (fun _ => 0))), (9, .inl (false, 8, (fun _ => 0))), (10, .inr (2, [.null, .null, .int 0]))]) dX6_init_38 CLX2 xcX6_30 xiX2 xnX2 dfX2 (by decide) rfl ?_
  refine G_dup dX6_init_41 rfl ?_
  refine G_ctor (Y' := YX2_init) (n2 := 18) (kc := 18) (ks := 209) (jc := 7) (js := 45) (L2 := [(0, .inr (6, [.ref 1, .ref 5, .ref 7, .null, .null, .null, .null, .null, .null, .int 0])), (1, .inr (0, [.ref 2, .ref 3, .ref 4, .int 0, .int 0, .int 0, .int 2, .int 0])), (2, .inl (false, 6, (fl (-6) 6))), (3, .inl (false, 6, (fun _ => 0))), (4, .inl (false, 6, (fl 5 6))), (5, .inr (3, [.ref 6, .int 0])), (6, .inl (false, 60, (fun _ => 0))), (7, .inr (4, [.ref 8, .ref 9, .int 0])), (8, .inl (false, 8, (fun _ => 0))), (9, .inl (false, 8, (fun _ => 0))), (10, .inr (2, [.ref 11, .ref 15, .int 0])), (11, .inr (0, [.ref 12, .ref 13, .ref 14, .int 0, .int 0, .int 0, .int 2, .int 0])), (12, .inl (false, 6, (fl (-6) 6))), (13, .inl (false, 6, (fun _ => 0))), (14, .inl (false, 6, (fl 5 6))), (15, .inr (4, [.ref 16, .ref 17, .int 0])), (16, .inl (false, 8, (fun _ => 0))), (17, .inl (false, 8, (fun _ => 0)))]) dX6_init_42 NX2 kX6_32 (g_X2_10 d) rfl rfl (Nat.le_of_ble_eq_true rfl) ?_
  refine G_putF (fs2 := [.ref 1, .ref 5, .ref 7, .ref 10, .null, .null, .null, .null, .null, .int 0]) (L2 := [(0, .inr (6, [.ref 1, .ref 5, .ref 7, .ref 10, .null, .null, .null, .null, .null, .int 0])), (1, .inr (0, [.ref 2, .ref 3, .ref 4, .int 0, .int 0, .int 0, .int 2, .int 0])), (2, .inl (false, 6, (fl (-6) 6))), (3, .inl (false, 6, (fun _ => 0))), (4, .inl (false, 6, (fl 5 6))), (5, .inr (3, [.ref 6, .int 0])), (6, .inl (false, 60, (fun _ => 0))), (7, .inr (4, [.ref 8, .ref 9, .int 0])), (8, .inl (false, 8, (fun _ => 0))), (9, .inl (false, 8, (fun _ => 0))), (10, .inr (2, [.ref 11, .ref 15, .int 0])), (11, .inr (0, [.ref 12, .ref 13, .ref 14, .int 0, .int 0, .int 0, .int 2, .int 0])), (12, .inl (false, 6, (fl (-6) 6))), (13, .inl (false, 6, (fun _ => 0))), (14, .inl (false, 6, (fl 5 6))), (15, .inr (4, [.ref 16, .ref 17, .int 0])), (16, .inl (false, 8, (fun _ => 0))), (17, .inl (false, 8, (fun _ => 0)))]) dX6_init_45 fX6_33 ffX6_3 (by decide) rfl (fun _ => ⟨rfl, rfl⟩) (Nat.le_of_ble_eq_true rfl) rfl rfl ?_
  refine G_aload_n dX6_init_48 rfl ?_
  refine G_new (kn := 18) (kc := 17) (ks := 206) (L2 := [(0, .inr (6, [.ref 1, .ref 5, .ref 7, .ref 10, .null, .null, .null, .null, .null, .int 0])), (1, .inr (0, [.ref 2, .ref 3, .ref 4, .int 0, .int 0, .int 0, .int 2, .int 0])), (2, .inl (false, 6, (fl (-6) 6))), (3, .inl (false, 6, (fun _ => 0))), (4, .inl (false, 6, (fl 5 6))), (5, .inr (3, [.ref 6, .int 0])), (6, .inl (false, 60, (fun _ => 0))), (7, .inr (4, [.ref 8, .ref 9, .int 0])), (8, .inl (false, 8, (fun _ => 0))), (9, .inl (false, 8, (fun _ => 0))), (10, .inr (2, [.ref 11, .ref 15, .int 0])), (11, .inr (0, [.ref 12, .ref 13, .ref 14, .int 0, .int 0, .int 0, .int 2, .int 0])), (12, .inl (false, 6, (fl (-6) 6))), (13, .inl (false, 6, (fun _ => 0))), (14, .inl (false, 6, (fl 5 6))), (15, .inr (4, [.ref 16, .ref 17, .int 0])), (16, .inl (false, 8, (fun _ => 0))), (17, .inl (false, 8, (fun _ => 0))), (18, .inr (2, [.null, .null, .int 0]))]) dX6_init_49 CLX2 xcX6_30 xiX2 xnX2 dfX2 (by decide) rfl ?_
  refine G_dup dX6_init_52 rfl ?_
  refine G_ctor (Y' := YX2_init) (n2 := 26) (kc := 10) (ks := 161) (jc := 7) (js := 45) (L2 := [(0, .inr (6, [.ref 1, .ref 5, .ref 7, .ref 10, .null, .null, .null, .null, .null, .int 0])), (1, .inr (0, [.ref 2, .ref 3, .ref 4, .int 0, .int 0, .int 0, .int 2, .int 0])), (2, .inl (false, 6, (fl (-6) 6))), (3, .inl (false, 6, (fun _ => 0))), (4, .inl (false, 6, (fl 5 6))), (5, .inr (3, [.ref 6, .int 0])), (6, .inl (false, 60, (fun _ => 0))), (7, .inr (4, [.ref 8, .ref 9, .int 0])), (8, .inl (false, 8, (fun _ => 0))), (9, .inl (false, 8, (fun _ => 0))), (10, .inr (2, [.ref 11, .ref 15, .int 0])), (11, .inr (0, [.ref 12, .ref 13, .ref 14, .int 0, .int 0, .int 0, .int 2, .int 0])), (12, .inl (false, 6, (fl (-6) 6))), (13, .inl (false, 6, (fun _ => 0))), (14, .inl (false, 6, (fl 5 6))), (15, .inr (4, [.ref 16, .ref 17, .int 0])), (16, .inl (false, 8, (fun _ => 0))), (17, .inl (false, 8, (fun _ => 0))), (18, .inr (2, [.ref 19, .ref 23, .int 0])), (19, .inr (0, [.ref 20, .ref 21, .ref 22, .int 0, .int 0, .int 0, .int 2, .int 0])), (20, .inl (false, 6, (fl (-6) 6))), (21, .inl (false, 6, (fun _ => 0))), (22, .inl (false, 6, (fl 5 6))), (23, .inr (4, [.ref 24, .ref 25, .int 0])), (24, .inl (false, 8, (fun _ => 0))), (25, .inl (false, 8, (fun _ => 0)))]) dX6_init_53 NX2 kX6_32 (g_X2_18 d) rfl rfl (Nat.le_of_ble_eq_true rfl) ?_
  refine G_putF (fs2 := [.ref 1, .ref 5, .ref 7, .ref 10, .ref 18, .null, .null, .null, .null, .int 0]) (L2 := [(0, .inr (6, [.ref 1, .ref 5, .ref 7, .ref 10, .ref 18, .null, .null, .null, .null, .int 0])), (1, .inr (0, [.ref 2, .ref 3, .ref 4, .int 0, .int 0, .int 0, .int 2, .int 0])), (2, .inl (false, 6, (fl (-6) 6))), (3, .inl (false, 6, (fun _ => 0))), (4, .inl (false, 6, (fl 5 6))), (5, .inr (3, [.ref 6, .int 0])), (6, .inl (false, 60, (fun _ => 0))), (7, .inr (4, [.ref 8, .ref 9, .int 0])), (8, .inl (false, 8, (fun _ => 0))), (9, .inl (false, 8, (fun _ => 0))), (10, .inr (2, [.ref 11, .ref 15, .int 0])), (11, .inr (0, [.ref 12, .ref 13, .ref 14, .int 0, .int 0, .int 0, .int 2, .int 0])), (12, .inl (false, 6, (fl (-6) 6))), (13, .inl (false, 6, (fun _ => 0))), (14, .inl (false, 6, (fl 5 6))), (15, .inr (4, [.ref 16, .ref 17, .int 0])), (16, .inl (false, 8, (fun _ => 0))), (17, .inl (false, 8, (fun _ => 0))), (18, .inr (2, [.ref 19, .ref 23, .int 0])), (19, .inr (0, [.ref 20, .ref 21, .ref 22, .int 0, .int 0, .int 0, .int 2, .int 0])), (20, .inl (false, 6, (fl (-6) 6))), (21, .inl (false, 6, (fun _ => 0))), (22, .inl (false, 6, (fl 5 6))), (23, .inr (4, [.ref 24, .ref 25, .int 0])), (24, .inl (false, 8, (fun _ => 0))), (25, .inl (false, 8, (fun _ => 0)))]) dX6_init_56 fX6_37 ffX6_4 (by decide) rfl (fun _ => ⟨rfl, rfl⟩) (Nat.le_of_ble_eq_true rfl) rfl rfl ?_
  refine G_aload_n dX6_init_59 rfl ?_
  refine G_new (kn := 26) (kc := 9) (ks := 154) (L2 := [(0, .inr (6, [.ref 1, .ref 5, .ref 7, .ref 10, .ref 18, .null, .null, .null, .null, .int 0])), (1, .inr (0, [.ref 2, .ref 3, .ref 4, .int 0, .int 0, .int 0, .int 2, .int 0])), (2, .inl (false, 6, (fl (-6) 6))), (3, .inl (false, 6, (fun _ => 0))), (4, .inl (false, 6, (fl 5 6))), (5, .inr (3, [.ref 6, .int 0])), (6, .inl (false, 60, (fun _ => 0))), (7, .inr (4, [.ref 8, .ref 9, .int 0])), (8, .inl (false, 8, (fun _ => 0))), (9, .inl (false, 8, (fun _ => 0))), (10, .inr (2, [.ref 11, .ref 15, .int 0])), (11, .inr (0, [.ref 12, .ref 13, .ref 14, .int 0, .int 0, .int 0, .int 2, .int 0])), (12, .inl (false, 6, (fl (-6) 6))), (13, .inl (false, 6, (fun _ => 0))), (14, .inl (false, 6, (fl 5 6))), (15, .inr (4, [.ref 16, .ref 17, .int 0])), (16, .inl (false, 8, (fun _ => 0))), (17, .inl (false, 8, (fun _ => 0))), (18, .inr (2, [.ref 19, .ref 23, .int 0])), (19, .inr (0, [.ref 20, .ref 21, .ref 22, .int 0, .int 0, .int 0, .int 2, .int 0])), (20, .inl (false, 6, (fl (-6) 6))), (21, .inl (false, 6, (fun _ => 0))), (22, .inl (false, 6, (fl 5 6))), (23, .inr (4, [.ref 24, .ref 25, .int 0])), (24, .inl (false, 8, (fun _ => 0))), (25, .inl (false, 8, (fun _ => 0))), (26, .inr (5, [.null, .int 0, .int 0, .int 0, .int 0, .int 0, .int 0]))]) dX6_init_60 CLX5 xcX6_40 xiX5 xnX5 dfX5 (by decide) rfl ?_
  refine G_dup dX6_init_63 rfl ?_
  refine G_ctor (Y' := YX5_init) (n2 := 31) (kc := 5) (ks := 128) (jc := 4) (js := 26) (L2 := [(0, .inr (6, [.ref 1, .ref 5, .ref 7, .ref 10, .ref 18, .null, .null, .null, .null, .int 0])), (1, .inr (0, [.ref 2, .ref 3, .ref 4, .int 0, .int 0, .int 0, .int 2, .int 0])), (2, .inl (false, 6, (fl (-6) 6))), (3, .inl (false, 6, (fun _ => 0))), (4, .inl (false, 6, (fl 5 6))), (5, .inr (3, [.ref 6, .int 0])), (6, .inl (false, 60, (fun _ => 0))), (7, .inr (4, [.ref 8, .ref 9, .int 0])), (8, .inl (false, 8, (fun _ => 0))), (9, .inl (false, 8, (fun _ => 0))), (10, .inr (2, [.ref 11, .ref 15, .int 0])), (11, .inr (0, [.ref 12, .ref 13, .ref 14, .int 0, .int 0, .int 0, .int 2, .int 0])), (12, .inl (false, 6, (fl (-6) 6))), (13, .inl (false, 6, (fun _ => 0))), (14, .inl (false, 6, (fl 5 6))), (15, .inr (4, [.ref 16, .ref 17, .int 0])), (16, .inl (false, 8, (fun _ => 0))), (17, .inl (false, 8, (fun _ => 0))), (18, .inr (2, [.ref 19, .ref 23, .int 0])), (19, .inr (0, [.ref 20, .ref 21, .ref 22, .int 0, .int 0, .int 0, .int 2, .int 0])), (20, .inl (false, 6, (fl (-6) 6))), (21, .inl (false, 6, (fun _ => 0))), (22, .inl (false, 6, (fl 5 6))), (23, .inr (4, [.ref 24, .ref 25, .int 0])), (24, .inl (false, 8, (fun _ => 0))), (25, .inl (false, 8, (fun _ => 0))), (26, .inr (5, [.ref 27, .int 0, .int 0, .int 0, .int 0, .int 0, .int 0])), (27, .inr (0, [.ref 28, .ref 29, .ref 30, .int 0, .int 0, .int 0, .int 2, .int 0])), (28, .inl (false, 6, (fl (-6) 6))), (29, .inl (false, 6, (fun _ => 0))), (30, .inl (false, 6, (fl 5 6)))]) dX6_init_64 NX5 kX6_42 (g_X5_26 d) rfl rfl (Nat.le_of_ble_eq_true rfl) ?_
  refine G_putF (fs2 := [.ref 1, .ref 5, .ref 7, .ref 10, .ref 18, .ref 26, .null, .null, .null, .int 0]) (L2 := [(0, .inr (6, [.ref 1, .ref 5, .ref 7, .ref 10, .ref 18, .ref 26, .null, .null, .null, .int 0])), (1, .inr (0, [.ref 2, .ref 3, .ref 4, .int 0, .int 0, .int 0, .int 2, .int 0])), (2, .inl (false, 6, (fl (-6) 6))), (3, .inl (false, 6, (fun _ => 0))), (4, .inl (false, 6, (fl 5 6))), (5, .inr (3, [.ref 6, .int 0])), (6, .inl (false, 60, (fun _ => 0))), (7, .inr (4, [.ref 8, .ref 9, .int 0])), (8, .inl (false, 8, (fun _ => 0))), (9, .inl (false, 8, (fun _ => 0))), (10, .inr (2, [.ref 11, .ref 15, .int 0])), (11, .inr (0, [.ref 12, .ref 13, .ref 14, .int 0, .int 0, .int 0, .int 2, .int 0])), (12, .inl (false, 6, (fl (-6) 6))), (13, .inl (false, 6, (fun _ => 0))), (14, .inl (false, 6, (fl 5 6))), (15, .inr (4, [.ref 16, .ref 17, .int 0])), (16, .inl (false, 8, (fun _ => 0))), (17, .inl (false, 8, (fun _ => 0))), (18, .inr (2, [.ref 19, .ref 23, .int 0])), (19, .inr (0, [.ref 20, .ref 21, .ref 22, .int 0, .int 0, .int 0, .int 2, .int 0])), (20, .inl (false, 6, (fl (-6) 6))), (21, .inl (false, 6, (fun _ => 0))), (22, .inl (false, 6, (fl 5 6))), (23, .inr (4, [.ref 24, .ref 25, .int 0])), (24, .inl (false, 8, (fun _ => 0))), (25, .inl (false, 8, (fun _ => 0))), (26, .inr (5, [.ref 27, .int 0, .int 0, .int 0, .int 0, .int 0, .int 0])), (27, .inr (0, [.ref 28, .ref 29, .ref 30, .int 0, .int 0, .int 0, .int 2, .int 0])), (28, .inl (false, 6, (fl (-6) 6))), (29, .inl (false, 6, (fun _ => 0))), (30, .inl (false, 6, (fl 5 6)))]) dX6_init_67 fX6_43 ffX6_5 (by decide) rfl (fun _ => ⟨rfl, rfl⟩) (Nat.le_of_ble_eq_true rfl) rfl rfl ?_
  refine G_aload_n dX6_init_70 rfl ?_
  refine G_new (kn := 31) (kc := 4) (ks := 126) (L2 := [(0, .inr (6, [.ref 1, .ref 5, .ref 7, .ref 10, .ref 18, .ref 26, .null, .null, .null, .int 0])), (1, .inr (0, [.ref 2, .ref 3, .ref 4, .int 0, .int 0, .int 0, .int 2, .int 0])), (2, .inl (false, 6, (fl (-6) 6))), (3, .inl (false, 6, (fun _ => 0))), (4, .inl (false, 6, (fl 5 6))), (5, .inr (3, [.ref 6, .int 0])), (6, .inl (false, 60, (fun _ => 0))), (7, .inr (4, [.ref 8, .ref 9, .int 0])), (8, .inl (false, 8, (fun _ => 0))), (9, .inl (false, 8, (fun _ => 0))), (10, .inr (2, [.ref 11, .ref 15, .int 0])), (11, .inr (0, [.ref 12, .ref 13, .ref 14, .int 0, .int 0, .int 0, .int 2, .int 0])), (12, .inl (false, 6, (fl (-6) 6))), (13, .inl (false, 6, (fun _ => 0))), (14, .inl (false, 6, (fl 5 6))), (15, .inr (4, [.ref 16, .ref 17, .int 0])), (16, .inl (false, 8, (fun _ => 0))), (17, .inl (false, 8, (fun _ => 0))), (18, .inr (2, [.ref 19, .ref 23, .int 0])), (19, .inr (0, [.ref 20, .ref 21, .ref 22, .int 0, .int 0, .int 0, .int 2, .int 0])), (20, .inl (false, 6, (fl (-6) 6))), (21, .inl (false, 6, (fun _ => 0))), (22, .inl (false, 6, (fl 5 6))), (23, .inr (4, [.ref 24, .ref 25, .int 0])), (24, .inl (false, 8, (fun _ => 0))), (25, .inl (false, 8, (fun _ => 0))), (26, .inr (5, [.ref 27, .int 0, .int 0, .int 0, .int 0, .int 0, .int 0])), (27, .inr (0, [.ref 28, .ref 29, .ref 30, .int 0, .int 0, .int 0, .int 2, .int 0])), (28, .inl (false, 6, (fl (-6) 6))), (29, .inl (false, 6, (fun _ => 0))), (30, .inl (false, 6, (fl 5 6))), (31, .inr (1, [.null, .null]))]) dX6_init_71 CLX1 xcX6_47 xiX1 xnX1 dfX1 (by decide) rfl ?_
  refine G_dup dX6_init_74 rfl ?_
  refine G_ctor (Y' := YX1_init) (n2 := 34) (kc := 2) (ks := 110) (jc := 2) (js := 16) (L2 := [(0, .inr (6, [.ref 1, .ref 5, .ref 7, .ref 10, .ref 18, .ref 26, .null, .null, .null, .int 0])), (1, .inr (0, [.ref 2, .ref 3, .ref 4, .int 0, .int 0, .int 0, .int 2, .int 0])), (2, .inl (false, 6, (fl (-6) 6))), (3, .inl (false, 6, (fun _ => 0))), (4, .inl (false, 6, (fl 5 6))), (5, .inr (3, [.ref 6, .int 0])), (6, .inl (false, 60, (fun _ => 0))), (7, .inr (4, [.ref 8, .ref 9, .int 0])), (8, .inl (false, 8, (fun _ => 0))), (9, .inl (false, 8, (fun _ => 0))), (10, .inr (2, [.ref 11, .ref 15, .int 0])), (11, .inr (0, [.ref 12, .ref 13, .ref 14, .int 0, .int 0, .int 0, .int 2, .int 0])), (12, .inl (false, 6, (fl (-6) 6))), (13, .inl (false, 6, (fun _ => 0))), (14, .inl (false, 6, (fl 5 6))), (15, .inr (4, [.ref 16, .ref 17, .int 0])), (16, .inl (false, 8, (fun _ => 0))), (17, .inl (false, 8, (fun _ => 0))), (18, .inr (2, [.ref 19, .ref 23, .int 0])), (19, .inr (0, [.ref 20, .ref 21, .ref 22, .int 0, .int 0, .int 0, .int 2, .int 0])), (20, .inl (false, 6, (fl (-6) 6))), (21, .inl (false, 6, (fun _ => 0))), (22, .inl (false, 6, (fl 5 6))), (23, .inr (4, [.ref 24, .ref 25, .int 0])), (24, .inl (false, 8, (fun _ => 0))), (25, .inl (false, 8, (fun _ => 0))), (26, .inr (5, [.ref 27, .int 0, .int 0, .int 0, .int 0, .int 0, .int 0])), (27, .inr (0, [.ref 28, .ref 29, .ref 30, .int 0, .int 0, .int 0, .int 2, .int 0])), (28, .inl (false, 6, (fl (-6) 6))), (29, .inl (false, 6, (fun _ => 0))), (30, .inl (false, 6, (fl 5 6))), (31, .inr (1, [.ref 32, .ref 33])), (32, .inl (false, 8, (fun _ => 0))), (33, .inl (false, 8, (fun _ => 0)))]) dX6_init_75 NX1 kX6_49 (g_X1_31 (d + 1)) rfl rfl (Nat.le_of_ble_eq_true rfl) ?_
  refine G_putF (fs2 := [.ref 1, .ref 5, .ref 7, .ref 10, .ref 18, .ref 26, .ref 31, .null, .null, .int 0]) (L2 := [(0, .inr (6, [.ref 1, .ref 5, .ref 7, .ref 10, .ref 18, .ref 26, .ref 31, .null, .null, .int 0])), (1, .inr (0, [.ref 2, .ref 3, .ref 4, .int 0, .int 0, .int 0, .int 2, .int 0])), (2, .inl (false, 6, (fl (-6) 6))), (3, .inl (false, 6, (fun _ => 0))), (4, .inl (false, 6, (fl 5 6))), (5, .inr (3, [.ref 6, .int 0])), (6, .inl (false, 60, (fun _ => 0))), (7, .inr (4, [.ref 8, .ref 9, .int 0])), (8, .inl (false, 8, (fun _ => 0))), (9, .inl (false, 8, (fun _ => 0))), (10, .inr (2, [.ref 11, .ref 15, .int 0])), (11, .inr (0, [.ref 12, .ref 13, .ref 14, .int 0, .int 0, .int 0, .int 2, .int 0])), (12, .inl (false, 6, (fl (-6) 6))), (13, .inl (false, 6, (fun _ => 0))), (14, .inl (false, 6, (fl 5 6))), (15, .inr (4, [.ref 16, .ref 17, .int 0])), (16, .inl (false, 8, (fun _ => 0))), (17, .inl (false, 8, (fun _ => 0))), (18, .inr (2, [.ref 19, .ref 23, .int 0])), (19, .inr (0, [.ref 20, .ref 21, .ref 22, .int 0, .int 0, .int 0, .int 2, .int 0])), (20, .inl (false, 6, (fl (-6) 6))), (21, .inl (false, 6, (fun _ => 0))), (22, .inl (false, 6, (fl 5 6))), (23, .inr (4, [.ref 24, .ref 25, .int 0])), (24, .inl (false, 8, (fun _ => 0))), (25, .inl (false, 8, (fun _ => 0))), (26, .inr (5, [.ref 27, .int 0, .int 0, .int 0, .int 0, .int 0, .int 0])), (27, .inr (0, [.ref 28, .ref 29, .ref 30, .int 0, .int 0, .int 0, .int 2, .int 0])), (28, .inl (false, 6, (fl (-6) 6))), (29, .inl (false, 6, (fun _ => 0))), (30, .inl (false, 6, (fl 5 6))), (31, .inr (1, [.ref 32, .ref 33])), (32, .inl (false, 8, (fun _ => 0))), (33, .inl (false, 8, (fun _ => 0)))]) dX6_init_78 fX6_50 ffX6_6 (by decide) rfl (fun _ => ⟨rfl, rfl⟩) (Nat.le_of_ble_eq_true rfl) rfl rfl ?_
  refine G_aload_n dX6_init_81 rfl ?_
  refine G_bipush (v := 49) dX6_init_82 (by decide) ?_
  refine G_newai (kn := 35) (N := 49) (kc := 1) (ks := 61) (L2 := [(0, .inr (6, [.ref 1, .ref 5, .ref 7, .ref 10, .ref 18, .ref 26, .ref 31, .null, .null, .int 0])), (1, .inr (0, [.ref 2, .ref 3, .ref 4, .int 0, .int 0, .int 0, .int 2, .int 0])), (2, .inl (false, 6, (fl (-6) 6))), (3, .inl (false, 6, (fun _ => 0))), (4, .inl (false, 6, (fl 5 6))), (5, .inr (3, [.ref 6, .int 0])), (6, .inl (false, 60, (fun _ => 0))), (7, .inr (4, [.ref 8, .ref 9, .int 0])), (8, .inl (false, 8, (fun _ => 0))), (9, .inl (false, 8, (fun _ => 0))), (10, .inr (2, [.ref 11, .ref 15, .int 0])), (11, .inr (0, [.ref 12, .ref 13, .ref 14, .int 0, .int 0, .int 0, .int 2, .int 0])), (12, .inl (false, 6, (fl (-6) 6))), (13, .inl (false, 6, (fun _ => 0))), (14, .inl (false, 6, (fl 5 6))), (15, .inr (4, [.ref 16, .ref 17, .int 0])), (16, .inl (false, 8, (fun _ => 0))), (17, .inl (false, 8, (fun _ => 0))), (18, .inr (2, [.ref 19, .ref 23, .int 0])), (19, .inr (0, [.ref 20, .ref 21, .ref 22, .int 0, .int 0, .int 0, .int 2, .int 0])), (20, .inl (false, 6, (fl (-6) 6))), (21, .inl (false, 6, (fun _ => 0))), (22, .inl (false, 6, (fl 5 6))), (23, .inr (4, [.ref 24, .ref 25, .int 0])), (24, .inl (false, 8, (fun _ => 0))), (25, .inl (false, 8, (fun _ => 0))), (26, .inr (5, [.ref 27, .int 0, .int 0, .int 0, .int 0, .int 0, .int 0])), (27, .inr (0, [.ref 28, .ref 29, .ref 30, .int 0, .int 0, .int 0, .int 2, .int 0])), (28, .inl (false, 6, (fl (-6) 6))), (29, .inl (false, 6, (fun _ => 0))), (30, .inl (false, 6, (fl 5 6))), (31, .inr (1, [.ref 32, .ref 33])), (32, .inl (false, 8, (fun _ => 0))), (33, .inl (false, 8, (fun _ => 0))), (35, .inl (false, 49, (fun _ => 0)))]) dX6_init_84 ar_i (by decide) (by decide) (by decide) (by decide) rfl ?_
  refine G_putF (fs2 := [.ref 1, .ref 5, .ref 7, .ref 10, .ref 18, .ref 26, .ref 31, .ref 35, .null, .int 0]) (L2 := [(0, .inr (6, [.ref 1, .ref 5, .ref 7, .ref 10, .ref 18, .ref 26, .ref 31, .ref 35, .null, .int 0])), (1, .inr (0, [.ref 2, .ref 3, .ref 4, .int 0, .int 0, .int 0, .int 2, .int 0])), (2, .inl (false, 6, (fl (-6) 6))), (3, .inl (false, 6, (fun _ => 0))), (4, .inl (false, 6, (fl 5 6))), (5, .inr (3, [.ref 6, .int 0])), (6, .inl (false, 60, (fun _ => 0))), (7, .inr (4, [.ref 8, .ref 9, .int 0])), (8, .inl (false, 8, (fun _ => 0))), (9, .inl (false, 8, (fun _ => 0))), (10, .inr (2, [.ref 11, .ref 15, .int 0])), (11, .inr (0, [.ref 12, .ref 13, .ref 14, .int 0, .int 0, .int 0, .int 2, .int 0])), (12, .inl (false, 6, (fl (-6) 6))), (13, .inl (false, 6, (fun _ => 0))), (14, .inl (false, 6, (fl 5 6))), (15, .inr (4, [.ref 16, .ref 17, .int 0])), (16, .inl (false, 8, (fun _ => 0))), (17, .inl (false, 8, (fun _ => 0))), (18, .inr (2, [.ref 19, .ref 23, .int 0])), (19, .inr (0, [.ref 20, .ref 21, .ref 22, .int 0, .int 0, .int 0, .int 2, .int 0])), (20, .inl (false, 6, (fl (-6) 6))), (21, .inl (false, 6, (fun _ => 0))), (22, .inl (false, 6, (fl 5 6))), (23, .inr (4, [.ref 24, .ref 25, .int 0])), (24, .inl (false, 8, (fun _ => 0))), (25, .inl (false, 8, (fun _ => 0))), (26, .inr (5, [.ref 27, .int 0, .int 0, .int 0, .int 0, .int 0, .int 0])), (27, .inr (0, [.ref 28, .ref 29, .ref 30, .int 0, .int 0, .int 0, .int 2, .int 0])), (28, .inl (false, 6, (fl (-6) 6))), (29, .inl (false, 6, (fun _ => 0))), (30, .inl (false, 6, (fl 5 6))), (31, .inr (1, [.ref 32, .ref 33])), (32, .inl (false, 8, (fun _ => 0))), (33, .inl (false, 8, (fun _ => 0))), (35, .inl (false, 49, (fun _ => 0)))]) dX6_init_86 fX6_54 ffX6_7 (by decide) rfl (fun _ => ⟨rfl, rfl⟩) (Nat.le_of_ble_eq_true rfl) rfl rfl ?_
  refine G_aload_n dX6_init_89 rfl ?_
  refine G_bipush (v := 61) dX6_init_90 (by decide) ?_
  refine G_newai (kn := 37) (N := 61) (kc := 0) (ks := 0) (L2 := [(0, .inr (6, [.ref 1, .ref 5, .ref 7, .ref 10, .ref 18, .ref 26, .ref 31, .ref 35, .null, .int 0])), (1, .inr (0, [.ref 2, .ref 3, .ref 4, .int 0, .int 0, .int 0, .int 2, .int 0])), (2, .inl (false, 6, (fl (-6) 6))), (3, .inl (false, 6, (fun _ => 0))), (4, .inl (false, 6, (fl 5 6))), (5, .inr (3, [.ref 6, .int 0])), (6, .inl (false, 60, (fun _ => 0))), (7, .inr (4, [.ref 8, .ref 9, .int 0])), (8, .inl (false, 8, (fun _ => 0))), (9, .inl (false, 8, (fun _ => 0))), (10, .inr (2, [.ref 11, .ref 15, .int 0])), (11, .inr (0, [.ref 12, .ref 13, .ref 14, .int 0, .int 0, .int 0, .int 2, .int 0])), (12, .inl (false, 6, (fl (-6) 6))), (13, .inl (false, 6, (fun _ => 0))), (14, .inl (false, 6, (fl 5 6))), (15, .inr (4, [.ref 16, .ref 17, .int 0])), (16, .inl (false, 8, (fun _ => 0))), (17, .inl (false, 8, (fun _ => 0))), (18, .inr (2, [.ref 19, .ref 23, .int 0])), (19, .inr (0, [.ref 20, .ref 21, .ref 22, .int 0, .int 0, .int 0, .int 2, .int 0])), (20, .inl (false, 6, (fl (-6) 6))), (21, .inl (false, 6, (fun _ => 0))), (22, .inl (false, 6, (fl 5 6))), (23, .inr (4, [.ref 24, .ref 25, .int 0])), (24, .inl (false, 8, (fun _ => 0))), (25, .inl (false, 8, (fun _ => 0))), (26, .inr (5, [.ref 27, .int 0, .int 0, .int 0, .int 0, .int 0, .int 0])), (27, .inr (0, [.ref 28, .ref 29, .ref 30, .int 0, .int 0, .int 0, .int 2, .int 0])), (28, .inl (false, 6, (fl (-6) 6))), (29, .inl (false, 6, (fun _ => 0))), (30, .inl (false, 6, (fl 5 6))), (31, .inr (1, [.ref 32, .ref 33])), (32, .inl (false, 8, (fun _ => 0))), (33, .inl (false, 8, (fun _ => 0))), (35, .inl (false, 49, (fun _ => 0))), (37, .inl (false, 61, (fun _ => 0)))]) dX6_init_92 ar_i (by decide) (by decide) (by decide) (by decide) rfl ?_
  refine G_putF (fs2 := [.ref 1, .ref 5, .ref 7, .ref 10, .ref 18, .ref 26, .ref 31, .ref 35, .ref 37, .int 0]) (L2 := [(0, .inr (6, [.ref 1, .ref 5, .ref 7, .ref 10, .ref 18, .ref 26, .ref 31, .ref 35, .ref 37, .int 0])), (1, .inr (0, [.ref 2, .ref 3, .ref 4, .int 0, .int 0, .int 0, .int 2, .int 0])), (2, .inl (false, 6, (fl (-6) 6))), (3, .inl (false, 6, (fun _ => 0))), (4, .inl (false, 6, (fl 5 6))), (5, .inr (3, [.ref 6, .int 0])), (6, .inl (false, 60, (fun _ => 0))), (7, .inr (4, [.ref 8, .ref 9, .int 0])), (8, .inl (false, 8, (fun _ => 0))), (9, .inl (false, 8, (fun _ => 0))), (10, .inr (2, [.ref 11, .ref 15, .int 0])), (11, .inr (0, [.ref 12, .ref 13, .ref 14, .int 0, .int 0, .int 0, .int 2, .int 0])), (12, .inl (false, 6, (fl (-6) 6))), (13, .inl (false, 6, (fun _ => 0))), (14, .inl (false, 6, (fl 5 6))), (15, .inr (4, [.ref 16, .ref 17, .int 0])), (16, .inl (false, 8, (fun _ => 0))), (17, .inl (false, 8, (fun _ => 0))), (18, .inr (2, [.ref 19, .ref 23, .int 0])), (19, .inr (0, [.ref 20, .ref 21, .ref 22, .int 0, .int 0, .int 0, .int 2, .int 0])), (20, .inl (false, 6, (fl (-6) 6))), (21, .inl (false, 6, (fun _ => 0))), (22, .inl (false, 6, (fl 5 6))), (23, .inr (4, [.ref 24, .ref 25, .int 0])), (24, .inl (false, 8, (fun _ => 0))), (25, .inl (false, 8, (fun _ => 0))), (26, .inr (5, [.ref 27, .int 0, .int 0, .int 0, .int 0, .int 0, .int 0])), (27, .inr (0, [.ref 28, .ref 29, .ref 30, .int 0, .int 0, .int 0, .int 2, .int 0])), (28, .inl (false, 6, (fl (-6) 6))), (29, .inl (false, 6, (fun _ => 0))), (30, .inl (false, 6, (fl 5 6))), (31, .inr (1, [.ref 32, .ref 33])), (32, .inl (false, 8, (fun _ => 0))), (33, .inl (false, 8, (fun _ => 0))), (35, .inl (false, 49, (fun _ => 0))), (37, .inl (false, 61, (fun _ => 0)))]) dX6_init_94 fX6_58 ffX6_8 (by decide) rfl (fun _ => ⟨rfl, rfl⟩) (Nat.le_of_ble_eq_true rfl) rfl rfl ?_
  refine G_aload_n dX6_init_97 rfl ?_
  refine G_iconst (v := 1) dX6_init_98 (by decide) ?_
  refine G_put (fs2 := [.ref 1, .ref 5, .ref 7, .ref 10, .ref 18, .ref 26, .ref 31, .ref 35, .ref 37, .int 1]) (L2 := [(0, .inr (6, [.ref 1, .ref 5, .ref 7, .ref 10, .ref 18, .ref 26, .ref 31, .ref 35, .ref 37, .int 1])), (1, .inr (0, [.ref 2, .ref 3, .ref 4, .int 0, .int 0, .int 0, .int 2, .int 0])), (2, .inl (false, 6, (fl (-6) 6))), (3, .inl (false, 6, (fun _ => 0))), (4, .inl (false, 6, (fl 5 6))), (5, .inr (3, [.ref 6, .int 0])), (6, .inl (false, 60, (fun _ => 0))), (7, .inr (4, [.ref 8, .ref 9, .int 0])), (8, .inl (false, 8, (fun _ => 0))), (9, .inl (false, 8, (fun _ => 0))), (10, .inr (2, [.ref 11, .ref 15, .int 0])), (11, .inr (0, [.ref 12, .ref 13, .ref 14, .int 0, .int 0, .int 0, .int 2, .int 0])), (12, .inl (false, 6, (fl (-6) 6))), (13, .inl (false, 6, (fun _ => 0))), (14, .inl (false, 6, (fl 5 6))), (15, .inr (4, [.ref 16, .ref 17, .int 0])), (16, .inl (false, 8, (fun _ => 0))), (17, .inl (false, 8, (fun _ => 0))), (18, .inr (2, [.ref 19, .ref 23, .int 0])), (19, .inr (0, [.ref 20, .ref 21, .ref 22, .int 0, .int 0, .int 0, .int 2, .int 0])), (20, .inl (false, 6, (fl (-6) 6))), (21, .inl (false, 6, (fun _ => 0))), (22, .inl (false, 6, (fl 5 6))), (23, .inr (4, [.ref 24, .ref 25, .int 0])), (24, .inl (false, 8, (fun _ => 0))), (25, .inl (false, 8, (fun _ => 0))), (26, .inr (5, [.ref 27, .int 0, .int 0, .int 0, .int 0, .int 0, .int 0])), (27, .inr (0, [.ref 28, .ref 29, .ref 30, .int 0, .int 0, .int 0, .int 2, .int 0])), (28, .inl (false, 6, (fl (-6) 6))), (29, .inl (false, 6, (fun _ => 0))), (30, .inl (false, 6, (fl 5 6))), (31, .inr (1, [.ref 32, .ref 33])), (32, .inl (false, 8, (fun _ => 0))), (33, .inl (false, 8, (fun _ => 0))), (35, .inl (false, 49, (fun _ => 0))), (37, .inl (false, 61, (fun _ => 0)))]) dX6_init_99 fX6_61 fpX6_9 (by decide) rfl (fun _ => ⟨rfl, rfl⟩) (Nat.le_of_ble_eq_true rfl) rfl rfl ?_
  exact G_ret dX6_init_102 rfl rfl
set_option maxHeartbeats 4000000 in
set_option maxRecDepth 20000 in
theorem g_X7_38 (d : Nat) : GC YX7_init (d + 1) [.ref 38, .null] 37 [(38, .inr (7, [.null, .null, .int 0, .int 0, .null, .int 0, .null, .int 0, .int 0, .int 0, .int 0, .int 0, .int 0, .null, .null, .null, .null, .null, .null, .null]))] 11 370 48 [(38, .inr (7, [.ref 39, .ref 40, .int 2, .int 0, .ref 41, .int 0, .ref 42, .int 0, .int 0, .int 0, .int 0, .int 0, .int 0, .ref 43, .ref 44, .ref 45, .ref 46, .ref 47, .ref 48, .ref 49])), (39, .inl (false, 22, (bki 6))), (40, .inl (false, 22, (fun _ => 0))), (41, .inl (false, 16, (fun _ => 0))), (42, .inl (false, 60, (fun _ => 0))), (43, .inl (false, 8, (fun _ => 0))), (44, .inl (false, 8, (fun _ => 0))), (45, .inl (false, 7, (fun _ => 0))), (46, .inl (false, 61, (fun _ => 0))), (47, .inl (true, 64, (fun _ => 0))), (48, .inl (false, 100, (fun _ => 0))), (49, .inl (true, 2, (fun _ => 0)))] := by
  intro hp
  show GX YX7_init (d + 1) 0 [.ref 38, .null] [] 37 (hov hp [(38, .inr (7, [.null, .null, .int 0, .int 0, .null, .int 0, .null, .int 0, .int 0, .int 0, .int 0, .int 0, .int 0, .null, .null, .null, .null, .null, .null, .null]))]) 11 370 (fun n' h => n' = 48 ∧ h = hov hp [(38, .inr (7, [.ref 39, .ref 40, .int 2, .int 0, .ref 41, .int 0, .ref 42, .int 0, .int 0, .int 0, .int 0, .int 0, .int 0, .ref 43, .ref 44, .ref 45, .ref 46, .ref 47, .ref 48, .ref 49])), (39, .inl (false, 22, (bki 6))), (40, .inl (false, 22, (fun _ => 0))), (41, .inl (false, 16, (fun _ => 0))), (42, .inl (false, 60, (fun _ => 0))), (43, .inl (false, 8, (fun _ => 0))), (44, .inl (false, 8, (fun _ => 0))), (45, .inl (false, 7, (fun _ => 0))), (46, .inl (false, 61, (fun _ => 0))), (47, .inl (true, 64, (fun _ => 0))), (48, .inl (false, 100, (fun _ => 0))), (49, .inl (true, 2, (fun _ => 0)))])
  refine G_aload_n dX7_init_0 rfl ?_
  refine G_oinit dX7_init_1 oX7 oinit_in (Nat.le_of_ble_eq_true rfl) ?_
  refine G_aload_n dX7_init_4 rfl ?_
  refine G_bipush (v := 22) dX7_init_5 (by decide) ?_
  refine G_newai (kn := 39) (N := 22) (kc := 10) (ks := 348) (L2 := [(38, .inr (7, [.null, .null, .int 0, .int 0, .null, .int 0, .null, .int 0, .int 0, .int 0, .int 0, .int 0, .int 0, .null, .null, .null, .null, .null, .null, .null])), (39, .inl (false, 22, (fun _ => 0)))]) dX7_init_7 ar_i (by decide) (by decide) (by decide) (by decide) rfl ?_
  refine G_putF (fs2 := [.ref 39, .null, .int 0, .int 0, .null, .int 0, .null, .int 0, .int 0, .int 0, .int 0, .int 0, .int 0, .null, .null, .null, .null, .null, .null, .null]) (L2 := [(38, .inr (7, [.ref 39, .null, .int 0, .int 0, .null, .int 0, .null, .int 0, .int 0, .int 0, .int 0, .int 0, .int 0, .null, .null, .null, .null, .null, .null, .null])), (39, .inl (false, 22, (fun _ => 0)))]) dX7_init_9 fX7_7 ffX7_0 (by decide) rfl (fun _ => ⟨rfl, rfl⟩) (Nat.le_of_ble_eq_true rfl) rfl rfl ?_
  refine G_aload_n dX7_init_12 rfl ?_
  refine G_bipush (v := 22) dX7_init_13 (by decide) ?_
  refine G_newai (kn := 40) (N := 22) (kc := 9) (ks := 326) (L2 := [(38, .inr (7, [.ref 39, .null, .int 0, .int 0, .null, .int 0, .null, .int 0, .int 0, .int 0, .int 0, .int 0, .int 0, .null, .null, .null, .null, .null, .null, .null])), (39, .inl (false, 22, (fun _ => 0))), (40, .inl (false, 22, (fun _ => 0)))]) dX7_init_15 ar_i (by decide) (by decide) (by decide) (by decide) rfl ?_
  refine G_putF (fs2 := [.ref 39, .ref 40, .int 0, .int 0, .null, .int 0, .null, .int 0, .int 0, .int 0, .int 0, .int 0, .int 0, .null, .null, .null, .null, .null, .null, .null]) (L2 := [(38, .inr (7, [.ref 39, .ref 40, .int 0, .int 0, .null, .int 0, .null, .int 0, .int 0, .int 0, .int 0, .int 0, .int 0, .null, .null, .null, .null, .null, .null, .null])), (39, .inl (false, 22, (fun _ => 0))), (40, .inl (false, 22, (fun _ => 0)))]) dX7_init_17 fX7_13 ffX7_1 (by decide) rfl (fun _ => ⟨rfl, rfl⟩) (Nat.le_of_ble_eq_true rfl) rfl rfl ?_
  refine G_aload_n dX7_init_20 rfl ?_
  refine G_iconst (v := 2) dX7_init_21 (by decide) ?_
  refine G_put (fs2 := [.ref 39, .ref 40, .int 2, .int 0, .null, .int 0, .null, .int 0, .int 0, .int 0, .int 0, .int 0, .int 0, .null, .null, .null, .null, .null, .null, .null]) (L2 := [(38, .inr (7, [.ref 39, .ref 40, .int 2, .int 0, .null, .int 0, .null, .int 0, .int 0, .int 0, .int 0, .int 0, .int 0, .null, .null, .null, .null, .null, .null, .null])), (39, .inl (false, 22, (fun _ => 0))), (40, .inl (false, 22, (fun _ => 0)))]) dX7_init_22 fX7_16 fpX7_2 (by decide) rfl (fun _ => ⟨rfl, rfl⟩) (Nat.le_of_ble_eq_true rfl) rfl rfl ?_
  refine G_aload_n dX7_init_25 rfl ?_
  refine G_bipush (v := 16) dX7_init_26 (by decide) ?_
  refine G_newai (kn := 41) (N := 16) (kc := 8) (ks := 310) (L2 := [(38, .inr (7, [.ref 39, .ref 40, .int 2, .int 0, .null, .int 0, .null, .int 0, .int 0, .int 0, .int 0, .int 0, .int 0, .null, .null, .null, .null, .null, .null, .null])), (39, .inl (false, 22, (fun _ => 0))), (40, .inl (false, 22, (fun _ => 0))), (41, .inl (false, 16, (fun _ => 0)))]) dX7_init_28 ar_i (by decide) (by decide) (by decide) (by decide) rfl ?_
  refine G_putF (fs2 := [.ref 39, .ref 40, .int 2, .int 0, .ref 41, .int 0, .null, .int 0, .int 0, .int 0, .int 0, .int 0, .int 0, .null, .null, .null, .null, .null, .null, .null]) (L2 := [(38, .inr (7, [.ref 39, .ref 40, .int 2, .int 0, .ref 41, .int 0, .null, .int 0, .int 0, .int 0, .int 0, .int 0, .int 0, .null, .null, .null, .null, .null, .null, .null])), (39, .inl (false, 22, (fun _ => 0))), (40, .inl (false, 22, (fun _ => 0))), (41, .inl (false, 16, (fun _ => 0)))]) dX7_init_30 fX7_20 ffX7_4 (by decide) rfl (fun _ => ⟨rfl, rfl⟩) (Nat.le_of_ble_eq_true rfl) rfl rfl ?_
  refine G_aload_n dX7_init_33 rfl ?_
  refine G_bipush (v := 60) dX7_init_34 (by decide) ?_
  refine G_newai (kn := 42) (N := 60) (kc := 7) (ks := 250) (L2 := [(38, .inr (7, [.ref 39, .ref 40, .int 2, .int 0, .ref 41, .int 0, .null, .int 0, .int 0, .int 0, .int 0, .int 0, .int 0, .null, .null, .null, .null, .null, .null, .null])), (39, .inl (false, 22, (fun _ => 0))), (40, .inl (false, 22, (fun _ => 0))), (41, .inl (false, 16, (fun _ => 0))), (42, .inl (false, 60, (fun _ => 0)))]) dX7_init_36 ar_i (by decide) (by decide) (by decide) (by decide) rfl ?_
  refine G_putF (fs2 := [.ref 39, .ref 40, .int 2, .int 0, .ref 41, .int 0, .ref 42, .int 0, .int 0, .int 0, .int 0, .int 0, .int 0, .null, .null, .null, .null, .null, .null, .null]) (L2 := [(38, .inr (7, [.ref 39, .ref 40, .int 2, .int 0, .ref 41, .int 0, .ref 42, .int 0, .int 0, .int 0, .int 0, .int 0, .int 0, .null, .null, .null, .null, .null, .null, .null])), (39, .inl (false, 22, (fun _ => 0))), (40, .inl (false, 22, (fun _ => 0))), (41, .inl (false, 16, (fun _ => 0))), (42, .inl (false, 60, (fun _ => 0)))]) dX7_init_38 fX7_23 ffX7_6 (by decide) rfl (fun _ => ⟨rfl, rfl⟩) (Nat.le_of_ble_eq_true rfl) rfl rfl ?_
  refine G_aload_n dX7_init_41 rfl ?_
  refine G_bipush (v := 8) dX7_init_42 (by decide) ?_
  refine G_newai (kn := 43) (N := 8) (kc := 6) (ks := 242) (L2 := [(38, .inr (7, [.ref 39, .ref 40, .int 2, .int 0, .ref 41, .int 0, .ref 42, .int 0, .int 0, .int 0, .int 0, .int 0, .int 0, .null, .null, .null, .null, .null, .null, .null])), (39, .inl (false, 22, (fun _ => 0))), (40, .inl (false, 22, (fun _ => 0))), (41, .inl (false, 16, (fun _ => 0))), (42, .inl (false, 60, (fun _ => 0))), (43, .inl (false, 8, (fun _ => 0)))]) dX7_init_44 ar_i (by decide) (by decide) (by decide) (by decide) rfl ?_
  refine G_putF (fs2 := [.ref 39, .ref 40, .int 2, .int 0, .ref 41, .int 0, .ref 42, .int 0, .int 0, .int 0, .int 0, .int 0, .int 0, .ref 43, .null, .null, .null, .null, .null, .null]) (L2 := [(38, .inr (7, [.ref 39, .ref 40, .int 2, .int 0, .ref 41, .int 0, .ref 42, .int 0, .int 0, .int 0, .int 0, .int 0, .int 0, .ref 43, .null, .null, .null, .null, .null, .null])), (39, .inl (false, 22, (fun _ => 0))), (40, .inl (false, 22, (fun _ => 0))), (41, .inl (false, 16, (fun _ => 0))), (42, .inl (false, 60, (fun _ => 0))), (43, .inl (false, 8, (fun _ => 0)))]) dX7_init_46 fX7_26 ffX7_13 (by decide) rfl (fun _ => ⟨rfl, rfl⟩) (Nat.le_of_ble_eq_true rfl) rfl rfl ?_
  refine G_aload_n dX7_init_49 rfl ?_
  refine G_bipush (v := 8) dX7_init_50 (by decide) ?_
  refine G_newai (kn := 44) (N := 8) (kc := 5) (ks := 234) (L2 := [(38, .inr (7, [.ref 39, .ref 40, .int 2, .int 0, .ref 41, .int 0, .ref 42, .int 0, .int 0, .int 0, .int 0, .int 0, .int 0, .ref 43, .null, .null, .null, .null, .null, .null])), (39, .inl (false, 22, (fun _ => 0))), (40, .inl (false, 22, (fun _ => 0))), (41, .inl (false, 16, (fun _ => 0))), (42, .inl (false, 60, (fun _ => 0))), (43, .inl (false, 8, (fun _ => 0))), (44, .inl (false, 8, (fun _ => 0)))]) dX7_init_52 ar_i (by decide) (by decide) (by decide) (by decide) rfl ?_
  refine G_putF (fs2 := [.ref 39, .ref 40, .int 2, .int 0, .ref 41, .int 0, .ref 42, .int 0, .int 0, .int 0, .int 0, .int 0, .int 0, .ref 43, .ref 44, .null, .null, .null, .null, .null]) (L2 := [(38, .inr (7, [.ref 39, .ref 40, .int 2, .int 0, .ref 41, .int 0, .ref 42, .int 0, .int 0, .int 0, .int 0, .int 0, .int 0, .ref 43, .ref 44, .null, .null, .null, .null, .null])), (39, .inl (false, 22, (fun _ => 0))), (40, .inl (false, 22, (fun _ => 0))), (41, .inl (false, 16, (fun _ => 0))), (42, .inl (false, 60, (fun _ => 0))), (43, .inl (false, 8, (fun _ => 0))), (44, .inl (false, 8, (fun _ => 0)))]) dX7_init_54 fX7_29 ffX7_14 (by decide) rfl (fun _ => ⟨rfl, rfl⟩) (Nat.le_of_ble_eq_true rfl) rfl rfl ?_
  refine G_aload_n dX7_init_57 rfl ?_
  refine G_bipush (v := 7) dX7_init_58 (by decide) ?_
  refine G_newai (kn := 45) (N := 7) (kc := 4) (ks := 227) (L2 := [(38, .inr (7, [.ref 39, .ref 40, .int 2, .int 0, .ref 41, .int 0, .ref 42, .int 0, .int 0, .int 0, .int 0, .int 0, .int 0, .ref 43, .ref 44, .null, .null, .null, .null, .null])), (39, .inl (false, 22, (fun _ => 0))), (40, .inl (false, 22, (fun _ => 0))), (41, .inl (false, 16, (fun _ => 0))), (42, .inl (false, 60, (fun _ => 0))), (43, .inl (false, 8, (fun _ => 0))), (44, .inl (false, 8, (fun _ => 0))), (45, .inl (false, 7, (fun _ => 0)))]) dX7_init_60 ar_i (by decide) (by decide) (by decide) (by decide) rfl ?_
  refine G_putF (fs2 := [.ref 39, .ref 40, .int 2, .int 0, .ref 41, .int 0, .ref 42, .int 0, .int 0, .int 0, .int 0, .int 0, .int 0, .ref 43, .ref 44, .ref 45, .null, .null, .null, .null]) (L2 := [(38, .inr (7, [.ref 39, .ref 40, .int 2, .int 0, .ref 41, .int 0, .ref 42, .int 0, .int 0, .int 0, .int 0, .int 0, .int 0, .ref 43, .ref 44, .ref 45, .null, .null, .null, .null])), (39, .inl (false, 22, (fun _ => 0))), (40, .inl (false, 22, (fun _ => 0))), (41, .inl (false, 16, (fun _ => 0))), (42, .inl (false, 60, (fun _ => 0))), (43, .inl (false, 8, (fun _ => 0))), (44, .inl (false, 8, (fun _ => 0))), (45, .inl (false, 7, (fun _ => 0)))]) dX7_init_62 fX7_32 ffX7_15 (by decide) rfl (fun _ => ⟨rfl, rfl⟩) (Nat.le_of_ble_eq_true rfl) rfl rfl ?_
  refine G_aload_n dX7_init_65 rfl ?_
  refine G_bipush (v := 61) dX7_init_66 (by decide) ?_
  refine G_newai (kn := 46) (N := 61) (kc := 3) (ks := 166) (L2 := [(38, .inr (7, [.ref 39, .ref 40, .int 2, .int 0, .ref 41, .int 0, .ref 42, .int 0, .int 0, .int 0, .int 0, .int 0, .int 0, .ref 43, .ref 44, .ref 45, .null, .null, .null, .null])), (39, .inl (false, 22, (fun _ => 0))), (40, .inl (false, 22, (fun _ => 0))), (41, .inl (false, 16, (fun _ => 0))), (42, .inl (false, 60, (fun _ => 0))), (43, .inl (false, 8, (fun _ => 0))), (44, .inl (false, 8, (fun _ => 0))), (45, .inl (false, 7, (fun _ => 0))), (46, .inl (false, 61, (fun _ => 0)))]) dX7_init_68 ar_i (by decide) (by decide) (by decide) (by decide) rfl ?_
  refine G_putF (fs2 := [.ref 39, .ref 40, .int 2, .int 0, .ref 41, .int 0, .ref 42, .int 0, .int 0, .int 0, .int 0, .int 0, .int 0, .ref 43, .ref 44, .ref 45, .ref 46, .null, .null, .null]) (L2 := [(38, .inr (7, [.ref 39, .ref 40, .int 2, .int 0, .ref 41, .int 0, .ref 42, .int 0, .int 0, .int 0, .int 0, .int 0, .int 0, .ref 43, .ref 44, .ref 45, .ref 46, .null, .null, .null])), (39, .inl (false, 22, (fun _ => 0))), (40, .inl (false, 22, (fun _ => 0))), (41, .inl (false, 16, (fun _ => 0))), (42, .inl (false, 60, (fun _ => 0))), (43, .inl (false, 8, (fun _ => 0))), (44, .inl (false, 8, (fun _ => 0))), (45, .inl (false, 7, (fun _ => 0))), (46, .inl (false, 61, (fun _ => 0)))]) dX7_init_70 fX7_35 ffX7_16 (by decide) rfl (fun _ => ⟨rfl, rfl⟩) (Nat.le_of_ble_eq_true rfl) rfl rfl ?_
  refine G_aload_n dX7_init_73 rfl ?_
  refine G_bipush (v := 64) dX7_init_74 (by decide) ?_
  refine G_newaz (kn := 47) (N := 64) (kc := 2) (ks := 102) (L2 := [(38, .inr (7, [.ref 39, .ref 40, .int 2, .int 0, .ref 41, .int 0, .ref 42, .int 0, .int 0, .int 0, .int 0, .int 0, .int 0, .ref 43, .ref 44, .ref 45, .ref 46, .null, .null, .null])), (39, .inl (false, 22, (fun _ => 0))), (40, .inl (false, 22, (fun _ => 0))), (41, .inl (false, 16, (fun _ => 0))), (42, .inl (false, 60, (fun _ => 0))), (43, .inl (false, 8, (fun _ => 0))), (44, .inl (false, 8, (fun _ => 0))), (45, .inl (false, 7, (fun _ => 0))), (46, .inl (false, 61, (fun _ => 0))), (47, .inl (true, 64, (fun _ => 0)))]) dX7_init_76 ar_z (by decide) (by decide) (by decide) (by decide) rfl ?_
  refine G_putF (fs2 := [.ref 39, .ref 40, .int 2, .int 0, .ref 41, .int 0, .ref 42, .int 0, .int 0, .int 0, .int 0, .int 0, .int 0, .ref 43, .ref 44, .ref 45, .ref 46, .ref 47, .null, .null]) (L2 := [(38, .inr (7, [.ref 39, .ref 40, .int 2, .int 0, .ref 41, .int 0, .ref 42, .int 0, .int 0, .int 0, .int 0, .int 0, .int 0, .ref 43, .ref 44, .ref 45, .ref 46, .ref 47, .null, .null])), (39, .inl (false, 22, (fun _ => 0))), (40, .inl (false, 22, (fun _ => 0))), (41, .inl (false, 16, (fun _ => 0))), (42, .inl (false, 60, (fun _ => 0))), (43, .inl (false, 8, (fun _ => 0))), (44, .inl (false, 8, (fun _ => 0))), (45, .inl (false, 7, (fun _ => 0))), (46, .inl (false, 61, (fun _ => 0))), (47, .inl (true, 64, (fun _ => 0)))]) dX7_init_78 fX7_38 ffX7_17 (by decide) rfl (fun _ => ⟨rfl, rfl⟩) (Nat.le_of_ble_eq_true rfl) rfl rfl ?_
  refine G_aload_n dX7_init_81 rfl ?_
  refine G_bipush (v := 100) dX7_init_82 (by decide) ?_
  refine G_newai (kn := 48) (N := 100) (kc := 1) (ks := 2) (L2 := [(38, .inr (7, [.ref 39, .ref 40, .int 2, .int 0, .ref 41, .int 0, .ref 42, .int 0, .int 0, .int 0, .int 0, .int 0, .int 0, .ref 43, .ref 44, .ref 45, .ref 46, .ref 47, .null, .null])), (39, .inl (false, 22, (fun _ => 0))), (40, .inl (false, 22, (fun _ => 0))), (41, .inl (false, 16, (fun _ => 0))), (42, .inl (false, 60, (fun _ => 0))), (43, .inl (false, 8, (fun _ => 0))), (44, .inl (false, 8, (fun _ => 0))), (45, .inl (false, 7, (fun _ => 0))), (46, .inl (false, 61, (fun _ => 0))), (47, .inl (true, 64, (fun _ => 0))), (48, .inl (false, 100, (fun _ => 0)))]) dX7_init_84 ar_i (by decide) (by decide) (by decide) (by decide) rfl ?_
  refine G_putF (fs2 := [.ref 39, .ref 40, .int 2, .int 0, .ref 41, .int 0, .ref 42, .int 0, .int 0, .int 0, .int 0, .int 0, .int 0, .ref 43, .ref 44, .ref 45, .ref 46, .ref 47, .ref 48, .null]) (L2 := [(38, .inr (7, [.ref 39, .ref 40, .int 2, .int 0, .ref 41, .int 0, .ref 42, .int 0, .int 0, .int 0, .int 0, .int 0, .int 0, .ref 43, .ref 44, .ref 45, .ref 46, .ref 47, .ref 48, .null])), (39, .inl (false, 22, (fun _ => 0))), (40, .inl (false, 22, (fun _ => 0))), (41, .inl (false, 16, (fun _ => 0))), (42, .inl (false, 60, (fun _ => 0))), (43, .inl (false, 8, (fun _ => 0))), (44, .inl (false, 8, (fun _ => 0))), (45, .inl (false, 7, (fun _ => 0))), (46, .inl (false, 61, (fun _ => 0))), (47, .inl (true, 64, (fun _ => 0))), (48, .inl (false, 100, (fun _ => 0)))]) dX7_init_86 fX7_42 ffX7_18 (by decide) rfl (fun _ => ⟨rfl, rfl⟩) (Nat.le_of_ble_eq_true rfl) rfl rfl ?_
  refine G_aload_n dX7_init_89 rfl ?_
  refine G_iconst (v := 2) dX7_init_90 (by decide) ?_
  refine G_newaz (kn := 49) (N := 2) (kc := 0) (ks := 0) (L2 := [(38, .inr (7, [.ref 39, .ref 40, .int 2, .int 0, .ref 41, .int 0, .ref 42, .int 0, .int 0, .int 0, .int 0, .int 0, .int 0, .ref 43, .ref 44, .ref 45, .ref 46, .ref 47, .ref 48, .null])), (39, .inl (false, 22, (fun _ => 0))), (40, .inl (false, 22, (fun _ => 0))), (41, .inl (false, 16, (fun _ => 0))), (42, .inl (false, 60, (fun _ => 0))), (43, .inl (false, 8, (fun _ => 0))), (44, .inl (false, 8, (fun _ => 0))), (45, .inl (false, 7, (fun _ => 0))), (46, .inl (false, 61, (fun _ => 0))), (47, .inl (true, 64, (fun _ => 0))), (48, .inl (false, 100, (fun _ => 0))), (49, .inl (true, 2, (fun _ => 0)))]) dX7_init_91 ar_z (by decide) (by decide) (by decide) (by decide) rfl ?_
  refine G_putF (fs2 := [.ref 39, .ref 40, .int 2, .int 0, .ref 41, .int 0, .ref 42, .int 0, .int 0, .int 0, .int 0, .int 0, .int 0, .ref 43, .ref 44, .ref 45, .ref 46, .ref 47, .ref 48, .ref 49]) (L2 := [(38, .inr (7, [.ref 39, .ref 40, .int 2, .int 0, .ref 41, .int 0, .ref 42, .int 0, .int 0, .int 0, .int 0, .int 0, .int 0, .ref 43, .ref 44, .ref 45, .ref 46, .ref 47, .ref 48, .ref 49])), (39, .inl (false, 22, (fun _ => 0))), (40, .inl (false, 22, (fun _ => 0))), (41, .inl (false, 16, (fun _ => 0))), (42, .inl (false, 60, (fun _ => 0))), (43, .inl (false, 8, (fun _ => 0))), (44, .inl (false, 8, (fun _ => 0))), (45, .inl (false, 7, (fun _ => 0))), (46, .inl (false, 61, (fun _ => 0))), (47, .inl (true, 64, (fun _ => 0))), (48, .inl (false, 100, (fun _ => 0))), (49, .inl (true, 2, (fun _ => 0)))]) dX7_init_93 fX7_45 ffX7_19 (by decide) rfl (fun _ => ⟨rfl, rfl⟩) (Nat.le_of_ble_eq_true rfl) rfl rfl ?_
  refine G_iconst (v := 0) dX7_init_96 (by decide) ?_
  refine G_istore_n (l2 := [.ref 38, .int 0]) dX7_init_97 rfl (by decide) rfl ?_
  have L : ∀ i, i ≤ 6 → GX YX7_init (d + 1) 98 [.ref 38, .int (nI i)] [] 48 (hov hp [(38, .inr (7, [.ref 39, .ref 40, .int 2, .int 0, .ref 41, .int 0, .ref 42, .int 0, .int 0, .int 0, .int 0, .int 0, .int 0, .ref 43, .ref 44, .ref 45, .ref 46, .ref 47, .ref 48, .ref 49])), (39, .inl (false, 22, (bki i))), (40, .inl (false, 22, (fun _ => 0))), (41, .inl (false, 16, (fun _ => 0))), (42, .inl (false, 60, (fun _ => 0))), (43, .inl (false, 8, (fun _ => 0))), (44, .inl (false, 8, (fun _ => 0))), (45, .inl (false, 7, (fun _ => 0))), (46, .inl (false, 61, (fun _ => 0))), (47, .inl (true, 64, (fun _ => 0))), (48, .inl (false, 100, (fun _ => 0))), (49, .inl (true, 2, (fun _ => 0)))]) 0 0 (fun n' h => n' = 48 ∧ h = hov hp [(38, .inr (7, [.ref 39, .ref 40, .int 2, .int 0, .ref 41, .int 0, .ref 42, .int 0, .int 0, .int 0, .int 0, .int 0, .int 0, .ref 43, .ref 44, .ref 45, .ref 46, .ref 47, .ref 48, .ref 49])), (39, .inl (false, 22, (bki 6))), (40, .inl (false, 22, (fun _ => 0))), (41, .inl (false, 16, (fun _ => 0))), (42, .inl (false, 60, (fun _ => 0))), (43, .inl (false, 8, (fun _ => 0))), (44, .inl (false, 8, (fun _ => 0))), (45, .inl (false, 7, (fun _ => 0))), (46, .inl (false, 61, (fun _ => 0))), (47, .inl (true, 64, (fun _ => 0))), (48, .inl (false, 100, (fun _ => 0))), (49, .inl (true, 2, (fun _ => 0)))]) := by
    refine down 6 ?_ ?_
    · refine G_iload_n dX7_init_98 rfl ?_
      refine G_bipush (v := 6) dX7_init_99 (by decide) ?_
      refine G_icmp_ge (tgt := 131) dX7_init_101 (by decide) (fun _ => ?_) (fun c => absurd (by decide) c)
      exact G_ret dX7_init_131 rfl rfl
    · intro i hi ih
      refine G_iload_n dX7_init_98 rfl ?_
      refine G_bipush (v := 6) dX7_init_99 (by decide) ?_
      refine G_icmp_ge (tgt := 131) dX7_init_101 (by decide) (fun c => absurd c (cI_nle (n := 6) rfl hi (by decide))) (fun _ => ?_)
      refine G_aload_n dX7_init_104 rfl ?_
      refine G_get dX7_init_105 fX7_7 (by decide) rfl rfl ?_
      refine G_bipush (v := 6) dX7_init_108 (by decide) ?_
      refine G_iload_n dX7_init_110 rfl ?_
      refine G_iadd dX7_init_111 ?_
      refine G_eqi (y := nI (6 + i)) (nI_add 6 _) ?_
      refine G_iconst (v := 5) dX7_init_112 (by decide) ?_
      refine G_iast (j := 6 + i) (f2 := upd (bki i) (6 + i) 5) (L2 := [(38, .inr (7, [.ref 39, .ref 40, .int 2, .int 0, .ref 41, .int 0, .ref 42, .int 0, .int 0, .int 0, .int 0, .int 0, .int 0, .ref 43, .ref 44, .ref 45, .ref 46, .ref 47, .ref 48, .ref 49])), (39, .inl (false, 22, (upd (bki i) (6 + i) 5))), (40, .inl (false, 22, (fun _ => 0))), (41, .inl (false, 16, (fun _ => 0))), (42, .inl (false, 60, (fun _ => 0))), (43, .inl (false, 8, (fun _ => 0))), (44, .inl (false, 8, (fun _ => 0))), (45, .inl (false, 7, (fun _ => 0))), (46, .inl (false, 61, (fun _ => 0))), (47, .inl (true, 64, (fun _ => 0))), (48, .inl (false, 100, (fun _ => 0))), (49, .inl (true, 2, (fun _ => 0)))]) dX7_init_113 (by decide) rfl (by omega) (by decide) rfl rfl ?_
      refine G_aload_n dX7_init_114 rfl ?_
      refine G_get dX7_init_115 fX7_7 (by decide) rfl rfl ?_
      refine G_bipush (v := 12) dX7_init_118 (by decide) ?_
      refine G_iload_n dX7_init_120 rfl ?_
      refine G_iadd dX7_init_121 ?_
      refine G_eqi (y := nI (12 + i)) (nI_add 12 _) ?_
      refine G_bipush (v := (-6)) dX7_init_122 (by decide) ?_
      refine G_iast (j := 12 + i) (f2 := bki (i + 1)) (L2 := [(38, .inr (7, [.ref 39, .ref 40, .int 2, .int 0, .ref 41, .int 0, .ref 42, .int 0, .int 0, .int 0, .int 0, .int 0, .int 0, .ref 43, .ref 44, .ref 45, .ref 46, .ref 47, .ref 48, .ref 49])), (39, .inl (false, 22, (bki (i + 1)))), (40, .inl (false, 22, (fun _ => 0))), (41, .inl (false, 16, (fun _ => 0))), (42, .inl (false, 60, (fun _ => 0))), (43, .inl (false, 8, (fun _ => 0))), (44, .inl (false, 8, (fun _ => 0))), (45, .inl (false, 7, (fun _ => 0))), (46, .inl (false, 61, (fun _ => 0))), (47, .inl (true, 64, (fun _ => 0))), (48, .inl (false, 100, (fun _ => 0))), (49, .inl (true, 2, (fun _ => 0)))]) dX7_init_124 (by decide) rfl (by omega) (by decide) (bki_s i hi) rfl ?_
      refine G_iinc (y := nI (i + 1)) (l2 := [.ref 38, .int (nI (i + 1))]) dX7_init_125 rfl (nI_1 _) (by decide) rfl ?_
      refine G_goto (tgt := 98) dX7_init_128 (by decide) ?_
      exact ih
  have h := L 0 (by decide)
  rw [bki_0] at h
  exact h
