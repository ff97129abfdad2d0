set_option maxRecDepth 20000 in
theorem ggX5_judge_X2_evaluate : GoodIn wsX5_judge wsX2_evaluate := goodIn_r _ [8, 9, 10, 11, 12, 13, 14, 15, 16, 17, 18, 19, 20, 21, 22, 23, 7, 24, 25, 26, 27, 28, 29, 30, 31, 32, 33, 34, 35, 36, 37, 38, 39, 40, 41, 42, 43, 44, 45, 46, 47, 48, 49, 50, 51, 52, 53, 54, 55, 56, 57, 58, 59, 60, 61, 62, 63, 64, 65, 66, 67, 68, 69, 70, 71, 72, 73, 74, 75, 76, 77, 78, 79, 80, 81, 82, 83, 84, 85, 86, 87, 88, 89, 90, 128, 129, 130, 131, 132, 133, 134, 135, 136, 137, 138, 139] (by decide +kernel) (by decide +kernel)
set_option maxRecDepth 20000 in
theorem gX5_judge_X2_evaluate : GoodIn wsX5_judge (wsV RX5 39 RX2 yX2_evaluate wsX2_evaluate) := goodIn_app (goodIn_of _ (by decide +kernel)) ggX5_judge_X2_evaluate
set_option maxRecDepth 20000 in
theorem ggX5_judge_X2_outcomeOf : GoodIn wsX5_judge wsX2_outcomeOf := goodIn_r _ [94, 95, 96, 97, 18, 98, 99, 100, 101, 102, 103, 104, 105, 106, 107, 108, 109, 110, 111, 112, 44, 45, 46, 7, 47, 10, 113, 114, 115, 116, 117, 118, 119, 120, 121, 131, 132, 133, 134, 135, 136, 137, 138, 139, 128, 129, 130] (by decide +kernel) (by decide +kernel)
set_option maxRecDepth 20000 in
theorem gX5_judge_X2_outcomeOf : GoodIn wsX5_judge (wsV RX5 49 RX2 yX2_outcomeOf wsX2_outcomeOf) := goodIn_app (goodIn_of _ (by decide +kernel)) ggX5_judge_X2_outcomeOf
theorem dX5_judge_0 : decode cX5_judge 0 = .ok (.aload_n 0, 1) := by decide +kernel
theorem dX5_judge_1 : decode cX5_judge 1 = .ok (.aload_n 1, 1) := by decide +kernel
theorem dX5_judge_2 : decode cX5_judge 2 = .ok (.aload_n 0, 1) := by decide +kernel
theorem dX5_judge_3 : decode cX5_judge 3 = .ok (.getfield 12, 3) := by decide +kernel
theorem dX5_judge_6 : decode cX5_judge 6 = .ok (.aload_n 2, 1) := by decide +kernel
theorem dX5_judge_7 : decode cX5_judge 7 = .ok (.invokevirtual 39, 3) := by decide +kernel
theorem dX5_judge_10 : decode cX5_judge 10 = .ok (.putfield 45, 3) := by decide +kernel
theorem dX5_judge_13 : decode cX5_judge 13 = .ok (.aload_n 0, 1) := by decide +kernel
theorem dX5_judge_14 : decode cX5_judge 14 = .ok (.aload_n 0, 1) := by decide +kernel
theorem dX5_judge_15 : decode cX5_judge 15 = .ok (.getfield 45, 3) := by decide +kernel
theorem dX5_judge_18 : decode cX5_judge 18 = .ok (.ifCond .ne 14, 3) := by decide +kernel
theorem dX5_judge_21 : decode cX5_judge 21 = .ok (.aload_n 1, 1) := by decide +kernel
theorem dX5_judge_22 : decode cX5_judge 22 = .ok (.aload_n 0, 1) := by decide +kernel
theorem dX5_judge_23 : decode cX5_judge 23 = .ok (.getfield 12, 3) := by decide +kernel
theorem dX5_judge_26 : decode cX5_judge 26 = .ok (.invokevirtual 49, 3) := by decide +kernel
theorem dX5_judge_29 : decode cX5_judge 29 = .ok (.goto 4, 3) := by decide +kernel
theorem dX5_judge_32 : decode cX5_judge 32 = .ok (.lconst 0, 1) := by decide +kernel
theorem dX5_judge_33 : decode cX5_judge 33 = .ok (.putfield 53, 3) := by decide +kernel
theorem dX5_judge_36 : decode cX5_judge 36 = .ok (.return_, 1) := by decide +kernel
theorem dX5_hasOutcomeOf_0 : decode cX5_hasOutcomeOf 0 = .ok (.aload_n 0, 1) := by decide +kernel
theorem dX5_hasOutcomeOf_1 : decode cX5_hasOutcomeOf 1 = .ok (.getfield 45, 3) := by decide +kernel
theorem dX5_hasOutcomeOf_4 : decode cX5_hasOutcomeOf 4 = .ok (.aload_n 1, 1) := by decide +kernel
theorem dX5_hasOutcomeOf_5 : decode cX5_hasOutcomeOf 5 = .ok (.getfield 45, 3) := by decide +kernel
theorem dX5_hasOutcomeOf_8 : decode cX5_hasOutcomeOf 8 = .ok (.if_icmp .ne 19, 3) := by decide +kernel
theorem dX5_hasOutcomeOf_11 : decode cX5_hasOutcomeOf 11 = .ok (.aload_n 0, 1) := by decide +kernel
theorem dX5_hasOutcomeOf_12 : decode cX5_hasOutcomeOf 12 = .ok (.getfield 53, 3) := by decide +kernel
theorem dX5_hasOutcomeOf_15 : decode cX5_hasOutcomeOf 15 = .ok (.aload_n 1, 1) := by decide +kernel
theorem dX5_hasOutcomeOf_16 : decode cX5_hasOutcomeOf 16 = .ok (.getfield 53, 3) := by decide +kernel
theorem dX5_hasOutcomeOf_19 : decode cX5_hasOutcomeOf 19 = .ok (.lcmp, 1) := by decide +kernel
theorem dX5_hasOutcomeOf_20 : decode cX5_hasOutcomeOf 20 = .ok (.ifCond .ne 7, 3) := by decide +kernel
theorem dX5_hasOutcomeOf_23 : decode cX5_hasOutcomeOf 23 = .ok (.iconst 1, 1) := by decide +kernel
theorem dX5_hasOutcomeOf_24 : decode cX5_hasOutcomeOf 24 = .ok (.goto 4, 3) := by decide +kernel
theorem dX5_hasOutcomeOf_27 : decode cX5_hasOutcomeOf 27 = .ok (.iconst 0, 1) := by decide +kernel
theorem dX5_hasOutcomeOf_28 : decode cX5_hasOutcomeOf 28 = .ok (.ireturn, 1) := by decide +kernel
def fn_Reading_judge (r_status : Int32) (r_result : Int64) (r_tree_count : Int32) (r_tree_sums : Int32) (r_tree_kinds : Nat → Int32) (r_tree_details : Nat → Int32) (r_tree_lefts : Nat → Int32) (r_tree_rights : Nat → Int32) (r_tree_roots : Nat → Int32) (r_tree_joints : Nat → Int32) (e_status : Int32) (e_values : Nat → Int64) (e_differences : Nat → Int64) (g : Nat → Int32) : Option (Int32 × Int64 × Int32 × (Nat → Int64) × (Nat → Int64)) := ((fn_Eval_evaluate e_status e_values e_differences r_tree_count r_tree_kinds r_tree_details r_tree_lefts r_tree_rights g).bind fun q1 => (if q1.1 = 0 then ((fn_Eval_outcomeOf q1.2.2.1 r_tree_sums r_tree_roots r_tree_joints).bind fun q6 => some (q1.1, q6, q1.2.1, q1.2.2.1, q1.2.2.2)) else some (q1.1, 0, q1.2.1, q1.2.2.1, q1.2.2.2)))
set_option maxHeartbeats 40000000 in
set_option maxRecDepth 100000 in
theorem ct_Reading_judge (l : Launch) (D : va_G) (cI cJ cC : ClassId) (adK adV : Nat → Nat) (A_r A_r_tree A_r_builder A_r_printed A_r_spoken A_r_tree_kinds A_r_tree_details A_r_tree_lefts A_r_tree_rights A_r_tree_heights A_r_tree_roots A_r_tree_joints A_e A_e_values A_e_differences A_g : Nat) (sz : Nat) (r_status : Int32) (r_result : Int64) (r_tree_count : Int32) (r_tree_sums : Int32) (r_tree_kinds : Nat → Int32) (r_tree_details : Nat → Int32) (r_tree_lefts : Nat → Int32) (r_tree_rights : Nat → Int32) (r_tree_roots : Nat → Int32) (r_tree_joints : Nat → Int32) (e_status : Int32) (e_values : Nat → Int64) (e_differences : Nat → Int64) (g : Nat → Int32) {rs : Int32 × Int64 × Int32 × (Nat → Int64) × (Nat → Int64)} (hM : fn_Reading_judge r_status r_result r_tree_count r_tree_sums r_tree_kinds r_tree_details r_tree_lefts r_tree_rights r_tree_roots r_tree_joints e_status e_values e_differences g = some rs) : Met l yX5_judge wsX5_judge ({ frames := 5, cells := 0, slots := 0, locals := 130 } : Room) (zP D cI cJ cC adK adV [.ref A_r, .ref A_e, .ref A_g] sz [(A_r, .inr (5, [.ref A_r_tree, .ref A_r_builder, .ref A_r_printed, .ref A_r_spoken, .int r_status, .long r_result])), (A_r_tree, .inr (9, [.ref A_r_tree_kinds, .ref A_r_tree_details, .ref A_r_tree_lefts, .ref A_r_tree_rights, .ref A_r_tree_heights, .int r_tree_count, .ref A_r_tree_roots, .ref A_r_tree_joints, .int r_tree_sums])), (A_r_tree_kinds, .inl (cI, 160, .inl r_tree_kinds)), (A_r_tree_details, .inl (cI, 160, .inl r_tree_details)), (A_r_tree_lefts, .inl (cI, 160, .inl r_tree_lefts)), (A_r_tree_rights, .inl (cI, 160, .inl r_tree_rights)), (A_r_tree_roots, .inl (cI, 9, .inl r_tree_roots)), (A_r_tree_joints, .inl (cI, 9, .inl r_tree_joints)), (A_e, .inr (2, [.ref A_e_values, .ref A_e_differences, .int e_status])), (A_e_values, .inl (cJ, 160, .inr (.inl e_values))), (A_e_differences, .inl (cJ, 4, .inr (.inl e_differences))), (A_g, .inl (cI, 26, .inl g))]) (zQv D cI cJ cC [(A_r, .inr (5, [.ref A_r_tree, .ref A_r_builder, .ref A_r_printed, .ref A_r_spoken, .int rs.1, .long rs.2.1])), (A_r_tree, .inr (9, [.ref A_r_tree_kinds, .ref A_r_tree_details, .ref A_r_tree_lefts, .ref A_r_tree_rights, .ref A_r_tree_heights, .int r_tree_count, .ref A_r_tree_roots, .ref A_r_tree_joints, .int r_tree_sums])), (A_r_tree_kinds, .inl (cI, 160, .inl r_tree_kinds)), (A_r_tree_details, .inl (cI, 160, .inl r_tree_details)), (A_r_tree_lefts, .inl (cI, 160, .inl r_tree_lefts)), (A_r_tree_rights, .inl (cI, 160, .inl r_tree_rights)), (A_r_tree_roots, .inl (cI, 9, .inl r_tree_roots)), (A_r_tree_joints, .inl (cI, 9, .inl r_tree_joints)), (A_e, .inr (2, [.ref A_e_values, .ref A_e_differences, .int rs.2.2.1])), (A_e_values, .inl (cJ, 160, .inr (.inl rs.2.2.2.1))), (A_e_differences, .inl (cJ, 4, .inr (.inl rs.2.2.2.2))), (A_g, .inl (cI, 26, .inl g))] (va_A [(A_r, .inr (5, [.ref A_r_tree, .ref A_r_builder, .ref A_r_printed, .ref A_r_spoken, .int r_status, .long r_result])), (A_r_tree, .inr (9, [.ref A_r_tree_kinds, .ref A_r_tree_details, .ref A_r_tree_lefts, .ref A_r_tree_rights, .ref A_r_tree_heights, .int r_tree_count, .ref A_r_tree_roots, .ref A_r_tree_joints, .int r_tree_sums])), (A_r_tree_kinds, .inl (cI, 160, .inl r_tree_kinds)), (A_r_tree_details, .inl (cI, 160, .inl r_tree_details)), (A_r_tree_lefts, .inl (cI, 160, .inl r_tree_lefts)), (A_r_tree_rights, .inl (cI, 160, .inl r_tree_rights)), (A_r_tree_roots, .inl (cI, 9, .inl r_tree_roots)), (A_r_tree_joints, .inl (cI, 9, .inl r_tree_joints)), (A_e, .inr (2, [.ref A_e_values, .ref A_e_differences, .int e_status])), (A_e_values, .inl (cJ, 160, .inr (.inl e_values))), (A_e_differences, .inl (cJ, 4, .inr (.inl e_differences))), (A_g, .inl (cI, 26, .inl g))] sz)) 0 0 (va_A [(A_r, .inr (5, [.ref A_r_tree, .ref A_r_builder, .ref A_r_printed, .ref A_r_spoken, .int r_status, .long r_result])), (A_r_tree, .inr (9, [.ref A_r_tree_kinds, .ref A_r_tree_details, .ref A_r_tree_lefts, .ref A_r_tree_rights, .ref A_r_tree_heights, .int r_tree_count, .ref A_r_tree_roots, .ref A_r_tree_joints, .int r_tree_sums])), (A_r_tree_kinds, .inl (cI, 160, .inl r_tree_kinds)), (A_r_tree_details, .inl (cI, 160, .inl r_tree_details)), (A_r_tree_lefts, .inl (cI, 160, .inl r_tree_lefts)), (A_r_tree_rights, .inl (cI, 160, .inl r_tree_rights)), (A_r_tree_roots, .inl (cI, 9, .inl r_tree_roots)), (A_r_tree_joints, .inl (cI, 9, .inl r_tree_joints)), (A_e, .inr (2, [.ref A_e_values, .ref A_e_differences, .int e_status])), (A_e_values, .inl (cJ, 160, .inr (.inl e_values))), (A_e_differences, .inl (cJ, 4, .inr (.inl e_differences))), (A_g, .inl (cI, 26, .inl g))] sz) := by
  refine Met.ofW (cc := cX5_judge) (maxL := 3) (ret := none) (by decide) rfl ?_
  intro p e s m args below meth c s₁ B hml hv0
  obtain ⟨hargs, hsz, hP, hK, hD0, hX⟩ := hv0
  have hx := B.exec
  have hb := B.bytes
  have hr := B.returns
  have hts := atoms_spec (ws := wsX5_judge) B.pre
  have hown : s.vm.findClass RX5 = some m.cls := findClass_of_methodNamed B.named
  have hlocks := B.notSynchronized
  subst hsz
  have hD := hD0.self (sz := s.heap.size)
  generalize hAe : va_A [(A_r, .inr (5, [.ref A_r_tree, .ref A_r_builder, .ref A_r_printed, .ref A_r_spoken, .int r_status, .long r_result])), (A_r_tree, .inr (9, [.ref A_r_tree_kinds, .ref A_r_tree_details, .ref A_r_tree_lefts, .ref A_r_tree_rights, .ref A_r_tree_heights, .int r_tree_count, .ref A_r_tree_roots, .ref A_r_tree_joints, .int r_tree_sums])), (A_r_tree_kinds, .inl (cI, 160, .inl r_tree_kinds)), (A_r_tree_details, .inl (cI, 160, .inl r_tree_details)), (A_r_tree_lefts, .inl (cI, 160, .inl r_tree_lefts)), (A_r_tree_rights, .inl (cI, 160, .inl r_tree_rights)), (A_r_tree_roots, .inl (cI, 9, .inl r_tree_roots)), (A_r_tree_joints, .inl (cI, 9, .inl r_tree_joints)), (A_e, .inr (2, [.ref A_e_values, .ref A_e_differences, .int e_status])), (A_e_values, .inl (cJ, 160, .inr (.inl e_values))), (A_e_differences, .inl (cJ, 4, .inr (.inl e_differences))), (A_g, .inl (cI, 26, .inl g))] s.heap.size = A at hD hX ⊢
  have hA : ∀ q : Nat, s.heap.size ≤ q → A q := fun q h => by rw [← hAe]; exact Or.inr h
  have hS : va_S A s.heap s.heap [] := va_S.rf
  have hl := lv_entry ([.ref A_r, .ref A_e, .ref A_g]) (n := 3) (Nat.le_of_ble_eq_true rfl)
  rw [hargs, lg_entry_eq, ← hargs]
  generalize (lg_sl ([.ref A_r, .ref A_e, .ref A_g]) ++ List.replicate (3 - (lg_sl ([.ref A_r, .ref A_e, .ref A_g])).length) Slot.unset).toArray = ls at hl ⊢
  have hl : lv_has ls 3 [(0, .ref A_r), (1, .ref A_e), (2, .ref A_g)] := hl
  have hw0 : ∀ w ∈ u_ws RX5 TX5 6, w ∈ wsX5_judge := by decide +kernel
  have hw1 := hts (.fieldLink RX5 12 "NotationParser$Reading" "tree" "LNotationParser$Tree;") (by decide +kernel)
  have hw2 := hts (.fieldLink RX5 45 "NotationParser$Reading" "status" "I") (by decide +kernel)
  have hw3 := hts (.fieldLink RX5 53 "NotationParser$Reading" "result" "J") (by decide +kernel)
  refine lv_aload_n hx hb dX5_judge_0 rfl (lv_at hl 0 rfl) ?_
  refine lv_aload_n hx hb dX5_judge_1 rfl (lv_at hl 1 rfl) ?_
  refine lv_aload_n hx hb dX5_judge_2 rfl (lv_at hl 0 rfl) ?_
  refine va_get (D := D) (ci := 5) (v := .ref A_r_tree) (C := RX5) (T := TX5) (N := 6) hx hb hts hw0 hown hK hP 0 rfl rfl 0 (by decide) hw1 (fun _ h9 => h9) rfl dX5_judge_3 ?_
  refine lv_aload_n hx hb dX5_judge_6 rfl (lv_at hl 2 rfl) ?_
  obtain ⟨q1, hq1, hM⟩ := z_b hM
  obtain ⟨hPc, hDc, hFc⟩ := zcut (wc := [(A_e, .inr (2, [.ref A_e_values, .ref A_e_differences, .int e_status])), (A_e_values, .inl (cJ, 160, .inr (.inl e_values))), (A_e_differences, .inl (cJ, 4, .inr (.inl e_differences))), (A_r_tree, .inr (9, [.ref A_r_tree_kinds, .ref A_r_tree_details, .ref A_r_tree_lefts, .ref A_r_tree_rights, .ref A_r_tree_heights, .int r_tree_count, .ref A_r_tree_roots, .ref A_r_tree_joints, .int r_tree_sums])), (A_r_tree_kinds, .inl (cI, 160, .inl r_tree_kinds)), (A_r_tree_details, .inl (cI, 160, .inl r_tree_details)), (A_r_tree_lefts, .inl (cI, 160, .inl r_tree_lefts)), (A_r_tree_rights, .inl (cI, 160, .inl r_tree_rights)), (A_g, .inl (cI, 26, .inl g))]) hP hD hS hA [8, 9, 10, 1, 2, 3, 4, 5, 11] rfl rfl (by decide)
  refine zc_i (ws' := [(A_r, .inr (5, [.ref A_r_tree, .ref A_r_builder, .ref A_r_printed, .ref A_r_spoken, .int r_status, .long r_result])), (A_r_tree, .inr (9, [.ref A_r_tree_kinds, .ref A_r_tree_details, .ref A_r_tree_lefts, .ref A_r_tree_rights, .ref A_r_tree_heights, .int r_tree_count, .ref A_r_tree_roots, .ref A_r_tree_joints, .int r_tree_sums])), (A_r_tree_kinds, .inl (cI, 160, .inl r_tree_kinds)), (A_r_tree_details, .inl (cI, 160, .inl r_tree_details)), (A_r_tree_lefts, .inl (cI, 160, .inl r_tree_lefts)), (A_r_tree_rights, .inl (cI, 160, .inl r_tree_rights)), (A_r_tree_roots, .inl (cI, 9, .inl r_tree_roots)), (A_r_tree_joints, .inl (cI, 9, .inl r_tree_joints)), (A_e, .inr (2, [.ref A_e_values, .ref A_e_differences, .int q1.2.1])), (A_e_values, .inl (cJ, 160, .inr (.inl q1.2.2.1))), (A_e_differences, .inl (cJ, 4, .inr (.inl q1.2.2.2))), (A_g, .inl (cI, 26, .inl g))]) (va_runV (As := [.ref A_r_tree, .ref A_g]) (rest := [.ref A_r]) ⟨hx, hb, hml, hown, hts⟩ (ct_Eval_evaluate l D cI cJ cC adK adV A_e A_e_values A_e_differences A_r_tree A_r_tree_kinds A_r_tree_details A_r_tree_lefts A_r_tree_rights A_r_tree_heights A_r_tree_roots A_r_tree_joints A_g s.heap.size e_status e_values e_differences r_tree_count r_tree_sums r_tree_kinds r_tree_details r_tree_lefts r_tree_rights g hq1) (cwV 2 hts gX5_judge_X2_evaluate rfl rfl rfl (by decide +kernel) ⟨Nat.le_of_ble_eq_true rfl, Nat.le_of_ble_eq_true rfl⟩) ⟨zblind, va_recv hK hP (ci := 2) (q0 := 8) rfl rfl, zpre hX hS hFc hPc hK hDc⟩ rfl rfl hl.1 rfl (lv_room (Nat.le_of_ble_eq_true rfl)) dX5_judge_7 ⟨Nat.zero_le _, Nat.zero_le _⟩) hP hD hS hFc [8, 9, 10, 1, 2, 3, 4, 5, 11] rfl (by decide) rfl rfl (fun H2 locs hP hD hS => ?_)
  refine va_put (D := D) (ci := 5) (v := .int q1.1) (ty := .int) (C := RX5) (T := TX5) (N := 6) hx hb hts hw0 tyX5 tyX5_ok nmX5 hown hK hP hD hS 0 rfl rfl 4 (by decide) hw2 (fun _ h9 => h9) rfl (by decide +kernel) rfl rfl (Nat.le_of_ble_eq_true rfl) dX5_judge_10 (fun H3 locs hP hD hS => ?_)
  have hP : va_P D vwCl [(A_r, .inr (5, [.ref A_r_tree, .ref A_r_builder, .ref A_r_printed, .ref A_r_spoken, .int q1.1, .long r_result])), (A_r_tree, .inr (9, [.ref A_r_tree_kinds, .ref A_r_tree_details, .ref A_r_tree_lefts, .ref A_r_tree_rights, .ref A_r_tree_heights, .int r_tree_count, .ref A_r_tree_roots, .ref A_r_tree_joints, .int r_tree_sums])), (A_r_tree_kinds, .inl (cI, 160, .inl r_tree_kinds)), (A_r_tree_details, .inl (cI, 160, .inl r_tree_details)), (A_r_tree_lefts, .inl (cI, 160, .inl r_tree_lefts)), (A_r_tree_rights, .inl (cI, 160, .inl r_tree_rights)), (A_r_tree_roots, .inl (cI, 9, .inl r_tree_roots)), (A_r_tree_joints, .inl (cI, 9, .inl r_tree_joints)), (A_e, .inr (2, [.ref A_e_values, .ref A_e_differences, .int q1.2.1])), (A_e_values, .inl (cJ, 160, .inr (.inl q1.2.2.1))), (A_e_differences, .inl (cJ, 4, .inr (.inl q1.2.2.2))), (A_g, .inl (cI, 26, .inl g))] H3 := hP
  have hD : va_D A [(A_r, .inr (5, [.ref A_r_tree, .ref A_r_builder, .ref A_r_printed, .ref A_r_spoken, .int q1.1, .long r_result])), (A_r_tree, .inr (9, [.ref A_r_tree_kinds, .ref A_r_tree_details, .ref A_r_tree_lefts, .ref A_r_tree_rights, .ref A_r_tree_heights, .int r_tree_count, .ref A_r_tree_roots, .ref A_r_tree_joints, .int r_tree_sums])), (A_r_tree_kinds, .inl (cI, 160, .inl r_tree_kinds)), (A_r_tree_details, .inl (cI, 160, .inl r_tree_details)), (A_r_tree_lefts, .inl (cI, 160, .inl r_tree_lefts)), (A_r_tree_rights, .inl (cI, 160, .inl r_tree_rights)), (A_r_tree_roots, .inl (cI, 9, .inl r_tree_roots)), (A_r_tree_joints, .inl (cI, 9, .inl r_tree_joints)), (A_e, .inr (2, [.ref A_e_values, .ref A_e_differences, .int q1.2.1])), (A_e_values, .inl (cJ, 160, .inr (.inl q1.2.2.1))), (A_e_differences, .inl (cJ, 4, .inr (.inl q1.2.2.2))), (A_g, .inl (cI, 26, .inl g))] := hD
  refine lv_aload_n hx hb dX5_judge_13 rfl (lv_at hl 0 rfl) ?_
  refine lv_aload_n hx hb dX5_judge_14 rfl (lv_at hl 0 rfl) ?_
  refine va_get (D := D) (ci := 5) (v := .int q1.1) (C := RX5) (T := TX5) (N := 6) hx hb hts hw0 hown hK hP 0 rfl rfl 4 (by decide) hw2 (fun _ h9 => h9) rfl dX5_judge_15 ?_
  refine lv_if_ne (tgt := 32) hx hb dX5_judge_18 (by decide) (fun c4 => ?_) (fun c4 => ?_)
  · have hM := z_f c4 hM
    refine lv_lconst (v := 0) hx hb dX5_judge_32 (by decide) ?_
    refine va_put (D := D) (ci := 5) (v := .long 0) (ty := .long) (C := RX5) (T := TX5) (N := 6) hx hb hts hw0 tyX5 tyX5_ok nmX5 hown hK hP hD hS 0 rfl rfl 5 (by decide) hw3 (fun _ h9 => h9) rfl (by decide +kernel) rfl rfl (Nat.le_of_ble_eq_true rfl) dX5_judge_33 (fun H5 locs hP hD hS => ?_)
    have hP : va_P D vwCl [(A_r, .inr (5, [.ref A_r_tree, .ref A_r_builder, .ref A_r_printed, .ref A_r_spoken, .int q1.1, .long 0])), (A_r_tree, .inr (9, [.ref A_r_tree_kinds, .ref A_r_tree_details, .ref A_r_tree_lefts, .ref A_r_tree_rights, .ref A_r_tree_heights, .int r_tree_count, .ref A_r_tree_roots, .ref A_r_tree_joints, .int r_tree_sums])), (A_r_tree_kinds, .inl (cI, 160, .inl r_tree_kinds)), (A_r_tree_details, .inl (cI, 160, .inl r_tree_details)), (A_r_tree_lefts, .inl (cI, 160, .inl r_tree_lefts)), (A_r_tree_rights, .inl (cI, 160, .inl r_tree_rights)), (A_r_tree_roots, .inl (cI, 9, .inl r_tree_roots)), (A_r_tree_joints, .inl (cI, 9, .inl r_tree_joints)), (A_e, .inr (2, [.ref A_e_values, .ref A_e_differences, .int q1.2.1])), (A_e_values, .inl (cJ, 160, .inr (.inl q1.2.2.1))), (A_e_differences, .inl (cJ, 4, .inr (.inl q1.2.2.2))), (A_g, .inl (cI, 26, .inl g))] H5 := hP
    have hD : va_D A [(A_r, .inr (5, [.ref A_r_tree, .ref A_r_builder, .ref A_r_printed, .ref A_r_spoken, .int q1.1, .long 0])), (A_r_tree, .inr (9, [.ref A_r_tree_kinds, .ref A_r_tree_details, .ref A_r_tree_lefts, .ref A_r_tree_rights, .ref A_r_tree_heights, .int r_tree_count, .ref A_r_tree_roots, .ref A_r_tree_joints, .int r_tree_sums])), (A_r_tree_kinds, .inl (cI, 160, .inl r_tree_kinds)), (A_r_tree_details, .inl (cI, 160, .inl r_tree_details)), (A_r_tree_lefts, .inl (cI, 160, .inl r_tree_lefts)), (A_r_tree_rights, .inl (cI, 160, .inl r_tree_rights)), (A_r_tree_roots, .inl (cI, 9, .inl r_tree_roots)), (A_r_tree_joints, .inl (cI, 9, .inl r_tree_joints)), (A_e, .inr (2, [.ref A_e_values, .ref A_e_differences, .int q1.2.1])), (A_e_values, .inl (cJ, 160, .inr (.inl q1.2.2.1))), (A_e_differences, .inl (cJ, 4, .inr (.inl q1.2.2.2))), (A_g, .inl (cI, 26, .inl g))] := hD
    have hM := Option.some.inj hM
    subst hM
    exact W.vret hx hb hr (fun t ht hW => ⟨⟨(), rfl, trivial, ⟨by rw [ht]; exact hP, va_K.moved hW.alike hK, hD⟩⟩, hS.F ht⟩) hS.2.2 dX5_judge_36
  · have hM := z_t c4 hM
    refine lv_aload_n hx hb dX5_judge_21 rfl (lv_at hl 1 rfl) ?_
    refine lv_aload_n hx hb dX5_judge_22 rfl (lv_at hl 0 rfl) ?_
    refine va_get (D := D) (ci := 5) (v := .ref A_r_tree) (C := RX5) (T := TX5) (N := 6) hx hb hts hw0 hown hK hP 0 rfl rfl 0 (by decide) hw1 (fun _ h9 => h9) rfl dX5_judge_23 ?_
    obtain ⟨q6, hq6, hM⟩ := z_b hM
    obtain ⟨hPc, hDc, hFc⟩ := zcut (wc := [(A_e, .inr (2, [.ref A_e_values, .ref A_e_differences, .int q1.2.1])), (A_e_values, .inl (cJ, 160, .inr (.inl q1.2.2.1))), (A_r_tree, .inr (9, [.ref A_r_tree_kinds, .ref A_r_tree_details, .ref A_r_tree_lefts, .ref A_r_tree_rights, .ref A_r_tree_heights, .int r_tree_count, .ref A_r_tree_roots, .ref A_r_tree_joints, .int r_tree_sums])), (A_r_tree_roots, .inl (cI, 9, .inl r_tree_roots)), (A_r_tree_joints, .inl (cI, 9, .inl r_tree_joints))]) hP hD hS hA [8, 9, 1, 6, 7] rfl rfl (by decide)
    refine zc_l (ws' := [(A_r, .inr (5, [.ref A_r_tree, .ref A_r_builder, .ref A_r_printed, .ref A_r_spoken, .int q1.1, .long r_result])), (A_r_tree, .inr (9, [.ref A_r_tree_kinds, .ref A_r_tree_details, .ref A_r_tree_lefts, .ref A_r_tree_rights, .ref A_r_tree_heights, .int r_tree_count, .ref A_r_tree_roots, .ref A_r_tree_joints, .int r_tree_sums])), (A_r_tree_kinds, .inl (cI, 160, .inl r_tree_kinds)), (A_r_tree_details, .inl (cI, 160, .inl r_tree_details)), (A_r_tree_lefts, .inl (cI, 160, .inl r_tree_lefts)), (A_r_tree_rights, .inl (cI, 160, .inl r_tree_rights)), (A_r_tree_roots, .inl (cI, 9, .inl r_tree_roots)), (A_r_tree_joints, .inl (cI, 9, .inl r_tree_joints)), (A_e, .inr (2, [.ref A_e_values, .ref A_e_differences, .int q1.2.1])), (A_e_values, .inl (cJ, 160, .inr (.inl q1.2.2.1))), (A_e_differences, .inl (cJ, 4, .inr (.inl q1.2.2.2))), (A_g, .inl (cI, 26, .inl g))]) (va_runV (As := [.ref A_r_tree]) (rest := [.ref A_r]) ⟨hx, hb, hml, hown, hts⟩ (ct_Eval_outcomeOf l D cI cJ cC adK adV A_e A_e_values A_e_differences A_r_tree A_r_tree_kinds A_r_tree_details A_r_tree_lefts A_r_tree_rights A_r_tree_heights A_r_tree_roots A_r_tree_joints H3.size q1.2.1 q1.2.2.1 r_tree_count r_tree_sums r_tree_roots r_tree_joints hq6) (cwV 1 hts gX5_judge_X2_outcomeOf rfl rfl rfl (by decide +kernel) ⟨Nat.le_of_ble_eq_true rfl, Nat.le_of_ble_eq_true rfl⟩) ⟨zblind, va_recv hK hP (ci := 2) (q0 := 8) rfl rfl, zpre hX hS hFc hPc hK hDc⟩ rfl rfl hl.1 rfl (lv_room (Nat.le_of_ble_eq_true rfl)) dX5_judge_26 ⟨Nat.zero_le _, Nat.zero_le _⟩) hP hD hS hFc [8, 9, 1, 6, 7] rfl (by decide) rfl rfl (fun H7 locs hP hD hS => ?_)
    refine lv_goto (tgt := 33) hx hb dX5_judge_29 (by decide) ?_
    refine va_put (D := D) (ci := 5) (v := .long q6) (ty := .long) (C := RX5) (T := TX5) (N := 6) hx hb hts hw0 tyX5 tyX5_ok nmX5 hown hK hP hD hS 0 rfl rfl 5 (by decide) hw3 (fun _ h9 => h9) rfl (by decide +kernel) rfl rfl (Nat.le_of_ble_eq_true rfl) dX5_judge_33 (fun H8 locs hP hD hS => ?_)
    have hP : va_P D vwCl [(A_r, .inr (5, [.ref A_r_tree, .ref A_r_builder, .ref A_r_printed, .ref A_r_spoken, .int q1.1, .long q6])), (A_r_tree, .inr (9, [.ref A_r_tree_kinds, .ref A_r_tree_details, .ref A_r_tree_lefts, .ref A_r_tree_rights, .ref A_r_tree_heights, .int r_tree_count, .ref A_r_tree_roots, .ref A_r_tree_joints, .int r_tree_sums])), (A_r_tree_kinds, .inl (cI, 160, .inl r_tree_kinds)), (A_r_tree_details, .inl (cI, 160, .inl r_tree_details)), (A_r_tree_lefts, .inl (cI, 160, .inl r_tree_lefts)), (A_r_tree_rights, .inl (cI, 160, .inl r_tree_rights)), (A_r_tree_roots, .inl (cI, 9, .inl r_tree_roots)), (A_r_tree_joints, .inl (cI, 9, .inl r_tree_joints)), (A_e, .inr (2, [.ref A_e_values, .ref A_e_differences, .int q1.2.1])), (A_e_values, .inl (cJ, 160, .inr (.inl q1.2.2.1))), (A_e_differences, .inl (cJ, 4, .inr (.inl q1.2.2.2))), (A_g, .inl (cI, 26, .inl g))] H8 := hP
    have hD : va_D A [(A_r, .inr (5, [.ref A_r_tree, .ref A_r_builder, .ref A_r_printed, .ref A_r_spoken, .int q1.1, .long q6])), (A_r_tree, .inr (9, [.ref A_r_tree_kinds, .ref A_r_tree_details, .ref A_r_tree_lefts, .ref A_r_tree_rights, .ref A_r_tree_heights, .int r_tree_count, .ref A_r_tree_roots, .ref A_r_tree_joints, .int r_tree_sums])), (A_r_tree_kinds, .inl (cI, 160, .inl r_tree_kinds)), (A_r_tree_details, .inl (cI, 160, .inl r_tree_details)), (A_r_tree_lefts, .inl (cI, 160, .inl r_tree_lefts)), (A_r_tree_rights, .inl (cI, 160, .inl r_tree_rights)), (A_r_tree_roots, .inl (cI, 9, .inl r_tree_roots)), (A_r_tree_joints, .inl (cI, 9, .inl r_tree_joints)), (A_e, .inr (2, [.ref A_e_values, .ref A_e_differences, .int q1.2.1])), (A_e_values, .inl (cJ, 160, .inr (.inl q1.2.2.1))), (A_e_differences, .inl (cJ, 4, .inr (.inl q1.2.2.2))), (A_g, .inl (cI, 26, .inl g))] := hD
    have hM := Option.some.inj hM
    subst hM
    exact W.vret hx hb hr (fun t ht hW => ⟨⟨(), rfl, trivial, ⟨by rw [ht]; exact hP, va_K.moved hW.alike hK, hD⟩⟩, hS.F ht⟩) hS.2.2 dX5_judge_36
def fn_Reading_hasOutcomeOf (r_status : Int32) (r_result : Int64) (o_status : Int32) (o_result : Int64) : Int32 := (if r_status = o_status then (if (lg_cmp r_result o_result) = 0 then 1 else 0) else 0)
set_option maxHeartbeats 40000000 in
set_option maxRecDepth 100000 in
theorem ct_Reading_hasOutcomeOf (l : Launch) (D : va_G) (cI cJ cC : ClassId) (adK adV : Nat → Nat) (A_r A_r_tree A_r_builder A_r_printed A_r_spoken A_o A_o_tree A_o_builder A_o_printed A_o_spoken : Nat) (sz : Nat) (r_status : Int32) (r_result : Int64) (o_status : Int32) (o_result : Int64) : Met l yX5_hasOutcomeOf wsX5_hasOutcomeOf ({ frames := 0, cells := 0, slots := 0, locals := 0 } : Room) (zP D cI cJ cC adK adV [.ref A_r, .ref A_o] sz [(A_r, .inr (5, [.ref A_r_tree, .ref A_r_builder, .ref A_r_printed, .ref A_r_spoken, .int r_status, .long r_result])), (A_o, .inr (5, [.ref A_o_tree, .ref A_o_builder, .ref A_o_printed, .ref A_o_spoken, .int o_status, .long o_result]))]) (zQi D cI cJ cC (fn_Reading_hasOutcomeOf r_status r_result o_status o_result) [(A_r, .inr (5, [.ref A_r_tree, .ref A_r_builder, .ref A_r_printed, .ref A_r_spoken, .int r_status, .long r_result])), (A_o, .inr (5, [.ref A_o_tree, .ref A_o_builder, .ref A_o_printed, .ref A_o_spoken, .int o_status, .long o_result]))] (va_A [(A_r, .inr (5, [.ref A_r_tree, .ref A_r_builder, .ref A_r_printed, .ref A_r_spoken, .int r_status, .long r_result])), (A_o, .inr (5, [.ref A_o_tree, .ref A_o_builder, .ref A_o_printed, .ref A_o_spoken, .int o_status, .long o_result]))] sz)) 0 0 (va_A [(A_r, .inr (5, [.ref A_r_tree, .ref A_r_builder, .ref A_r_printed, .ref A_r_spoken, .int r_status, .long r_result])), (A_o, .inr (5, [.ref A_o_tree, .ref A_o_builder, .ref A_o_printed, .ref A_o_spoken, .int o_status, .long o_result]))] sz) := by
  obtain ⟨rs, hM⟩ : ∃ rs, fn_Reading_hasOutcomeOf r_status r_result o_status o_result = rs := ⟨_, rfl⟩
  rw [hM]
  refine Met.ofW (cc := cX5_hasOutcomeOf) (maxL := 2) (ret := (some .boolean)) (by decide) rfl ?_
  intro p e s m args below meth c s₁ B hml hv0
  obtain ⟨hargs, hsz, hP, hK, hD0, hX⟩ := hv0
  have hx := B.exec
  have hb := B.bytes
  have hr := B.returns
  have hts := atoms_spec (ws := wsX5_hasOutcomeOf) B.pre
  have hown : s.vm.findClass RX5 = some m.cls := findClass_of_methodNamed B.named
  have hlocks := B.notSynchronized
  subst hsz
  have hD := hD0.self (sz := s.heap.size)
  generalize hAe : va_A [(A_r, .inr (5, [.ref A_r_tree, .ref A_r_builder, .ref A_r_printed, .ref A_r_spoken, .int r_status, .long r_result])), (A_o, .inr (5, [.ref A_o_tree, .ref A_o_builder, .ref A_o_printed, .ref A_o_spoken, .int o_status, .long o_result]))] s.heap.size = A at hD hX ⊢
  have hA : ∀ q : Nat, s.heap.size ≤ q → A q := fun q h => by rw [← hAe]; exact Or.inr h
  have hS : va_S A s.heap s.heap [] := va_S.rf
  have hl := lv_entry ([.ref A_r, .ref A_o]) (n := 2) (Nat.le_of_ble_eq_true rfl)
  rw [hargs, lg_entry_eq, ← hargs]
  generalize (lg_sl ([.ref A_r, .ref A_o]) ++ List.replicate (2 - (lg_sl ([.ref A_r, .ref A_o])).length) Slot.unset).toArray = ls at hl ⊢
  have hl : lv_has ls 2 [(0, .ref A_r), (1, .ref A_o)] := hl
  have hw0 : ∀ w ∈ u_ws RX5 TX5 6, w ∈ wsX5_hasOutcomeOf := by decide +kernel
  have hw1 := hts (.fieldLink RX5 45 "NotationParser$Reading" "status" "I") (by decide +kernel)
  have hw2 := hts (.fieldLink RX5 53 "NotationParser$Reading" "result" "J") (by decide +kernel)
  refine lv_aload_n hx hb dX5_hasOutcomeOf_0 rfl (lv_at hl 0 rfl) ?_
  refine va_get (D := D) (ci := 5) (v := .int r_status) (C := RX5) (T := TX5) (N := 6) hx hb hts hw0 hown hK hP 0 rfl rfl 4 (by decide) hw1 (fun _ h9 => h9) rfl dX5_hasOutcomeOf_1 ?_
  refine lv_aload_n hx hb dX5_hasOutcomeOf_4 rfl (lv_at hl 1 rfl) ?_
  refine va_get (D := D) (ci := 5) (v := .int o_status) (C := RX5) (T := TX5) (N := 6) hx hb hts hw0 hown hK hP 1 rfl rfl 4 (by decide) hw1 (fun _ h9 => h9) rfl dX5_hasOutcomeOf_5 ?_
  refine lv_icmp_ne (tgt := 27) hx hb dX5_hasOutcomeOf_8 (by decide) (fun c1 => ?_) (fun c1 => ?_)
  · have hM := z_f c1 hM
    refine lv_iconst (v := 0) hx hb dX5_hasOutcomeOf_27 (by decide) ?_
    have hM := hM
    subst hM
    exact W.zret (v := 0) (ty := .boolean) hx hb hr rfl (fun t ht hW => ⟨⟨_, (), rfl, rfl, ⟨by rw [ht]; exact hP, va_K.moved hW.alike hK, hD⟩⟩, hS.F ht⟩) hS.2.2 dX5_hasOutcomeOf_28
  · have hM := z_t c1 hM
    refine lv_aload_n hx hb dX5_hasOutcomeOf_11 rfl (lv_at hl 0 rfl) ?_
    refine va_get (D := D) (ci := 5) (v := .long r_result) (C := RX5) (T := TX5) (N := 6) hx hb hts hw0 hown hK hP 0 rfl rfl 5 (by decide) hw2 (fun _ h9 => h9) rfl dX5_hasOutcomeOf_12 ?_
    refine lv_aload_n hx hb dX5_hasOutcomeOf_15 rfl (lv_at hl 1 rfl) ?_
    refine va_get (D := D) (ci := 5) (v := .long o_result) (C := RX5) (T := TX5) (N := 6) hx hb hts hw0 hown hK hP 1 rfl rfl 5 (by decide) hw2 (fun _ h9 => h9) rfl dX5_hasOutcomeOf_16 ?_
    refine W.lcmp hx hb dX5_hasOutcomeOf_19 ?_
    refine lv_if_ne (tgt := 27) hx hb dX5_hasOutcomeOf_20 (by decide) (fun c2 => ?_) (fun c2 => ?_)
    · have hM := z_f c2 hM
      refine lv_iconst (v := 0) hx hb dX5_hasOutcomeOf_27 (by decide) ?_
      have hM := hM
      subst hM
      exact W.zret (v := 0) (ty := .boolean) hx hb hr rfl (fun t ht hW => ⟨⟨_, (), rfl, rfl, ⟨by rw [ht]; exact hP, va_K.moved hW.alike hK, hD⟩⟩, hS.F ht⟩) hS.2.2 dX5_hasOutcomeOf_28
    · have hM := z_t c2 hM
      refine lv_iconst (v := 1) hx hb dX5_hasOutcomeOf_23 (by decide) ?_
      refine lv_goto (tgt := 28) hx hb dX5_hasOutcomeOf_24 (by decide) ?_
      have hM := hM
      subst hM
      exact W.zret (v := 1) (ty := .boolean) hx hb hr rfl (fun t ht hW => ⟨⟨_, (), rfl, rfl, ⟨by rw [ht]; exact hP, va_K.moved hW.alike hK, hD⟩⟩, hS.F ht⟩) hS.2.2 dX5_hasOutcomeOf_28
