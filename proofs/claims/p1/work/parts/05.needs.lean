theorem dX6_needTeam_0 : decode cX6_needTeam 0 = .ok (.iload_n 1, 1) := by decide +kernel
theorem dX6_needTeam_1 : decode cX6_needTeam 1 = .ok (.ifCond .lt 11, 3) := by decide +kernel
theorem dX6_needTeam_4 : decode cX6_needTeam 4 = .ok (.iload_n 1, 1) := by decide +kernel
theorem dX6_needTeam_5 : decode cX6_needTeam 5 = .ok (.aload_n 0, 1) := by decide +kernel
theorem dX6_needTeam_6 : decode cX6_needTeam 6 = .ok (.getfield 95, 3) := by decide +kernel
theorem dX6_needTeam_9 : decode cX6_needTeam 9 = .ok (.if_icmp .lt 14, 3) := by decide +kernel
theorem dX6_needTeam_12 : decode cX6_needTeam 12 = .ok (.new 361, 3) := by decide +kernel
theorem dX6_needTeam_15 : decode cX6_needTeam 15 = .ok (.dup, 1) := by decide +kernel
theorem dX6_needTeam_16 : decode cX6_needTeam 16 = .ok (.ldc_w 461, 3) := by decide +kernel
theorem dX6_needTeam_19 : decode cX6_needTeam 19 = .ok (.invokespecial 365, 3) := by decide +kernel
theorem dX6_needTeam_22 : decode cX6_needTeam 22 = .ok (.athrow, 1) := by decide +kernel
set_option maxHeartbeats 4000000 in
set_option maxRecDepth 100000 in
theorem c_X6_needTeam (l : Launch) (htr : l.stackTraces = false) (dC : Nat → ClassId) (dI : Nat → Nat → Nat) (e0 sz : Nat) (h0 : Nat) (a : Nat → Nat) (p0 : Int32) : vx_Met l yX6_needTeam wsX6_needTeam ({ frames := 6, cells := 1, slots := 6, locals := 90 }) (va_Pc [.ref h0, .int p0] (fun U => U.heap.size = sz ∧ va_P (dC, dI) vwCl [(h0, .inr (11, zC a))] U.heap ∧ va_K (dC, dI) vwCl [] U ∧ va_D (fun _ => True) [(h0, .inr (11, zC a))] ∧ zE e0 (va_A [(h0, .inr (11, zC a))] sz) U U.heap)) (va_Qv (fun _ : Unit => False) (fun _ t => True) (va_A [(h0, .inr (11, zC a))] sz)) (zX zI (va_A [(h0, .inr (11, zC a))] sz)) 1 6 (va_A [(h0, .inr (11, zC a))] sz) := by
  refine vx_ofW (cc := cX6_needTeam) (maxL := 2) (ret := none) (by decide) rfl ?_
  intro p e s m args below meth c s₁ B hml hxt hv
  obtain ⟨rfl, hsz, hP, hK, hD0, hE⟩ := hv
  have hx := B.exec
  have hb := B.bytes
  have hr := B.returns
  have hts := atoms_spec (ws := wsX6_needTeam) B.pre
  have hown : s.vm.findClass RX6 = some m.cls := findClass_of_methodNamed B.named
  have hlocks := B.notSynchronized
  subst hsz
  have hD := hD0.self (sz := s.heap.size)
  generalize hAe : va_A [(h0, .inr (11, zC a))] s.heap.size = A at hD hE ⊢
  have hA : ∀ q : Nat, s.heap.size ≤ q → A q := fun q h => by rw [← hAe]; exact Or.inr h
  have hS : va_S A s.heap s.heap [] := va_S.rf
  have hl := lv_entry ([.ref h0, .int p0]) (n := 2) (Nat.le_of_ble_eq_true rfl)
  rw [lg_entry_eq]
  generalize (lg_sl ([.ref h0, .int p0]) ++ List.replicate (2 - (lg_sl ([.ref h0, .int p0])).length) Slot.unset).toArray = ls at hl ⊢
  have hl : lv_has ls 2 [(0, .ref h0), (1, .int p0)] := hl
  refine lv_iload_n hx hb dX6_needTeam_0 rfl (lv_at hl 1 rfl) ?_
  refine lv_if_lt (tgt := 12) hx hb dX6_needTeam_1 (by decide) (fun c1 => ?_) (fun c1 => ?_)
  · obtain ⟨hU, hN, -, -, hV, -⟩ := id hE
    obtain ⟨sa, hstr⟩ := zV_T461 hV
    have hat := vx_hat (fun w h => hts w (List.mem_cons_of_mem _ (List.mem_append_right _ h))) zx_bzI (zB.of hV (zV_C_zI hV))
    exact vx_throwSW hx hb htr hown (by decide +kernel) (by decide +kernel) (hts (.classLink RX6 361 zI) (by decide +kernel)) (hts (.initialized zI) (by decide +kernel)) hstr hat zx_gzI hU hN hS (hl.1.trans hml.symm) dX6_needTeam_12 dX6_needTeam_15 dX6_needTeam_16 dX6_needTeam_19 dX6_needTeam_22 (fun x hx9 => absurd (hxt x hx9) id) (Nat.le_of_ble_eq_true rfl) (Nat.le_of_ble_eq_true rfl) (Nat.le_of_ble_eq_true rfl) (Nat.le_of_ble_eq_true rfl) hlocks (fun t _ h1 h2 => zX.of hS h1 h2) hS.2.2 (Nat.le_of_ble_eq_true rfl) (Nat.le_of_ble_eq_true rfl)
  · refine lv_iload_n hx hb dX6_needTeam_4 rfl (lv_at hl 1 rfl) ?_
    refine lv_aload_n hx hb dX6_needTeam_5 rfl (lv_at hl 0 rfl) ?_
    refine va_get (D := (dC, dI)) (ci := 11) (v := .int 0) (C := RX6) (T := TX6) (N := 16) hx hb hts (by decide +kernel) hown hK hP 0 rfl rfl 7 (by decide) (hts (.fieldLink RX6 95 "Gangline" "teamCount" "I") (by decide +kernel)) (fun _ h9 => h9) rfl dX6_needTeam_6 ?_
    refine lv_icmp_lt (tgt := 23) hx hb dX6_needTeam_9 (by decide) (fun c2 => absurd c2 c1) (fun c2 => ?_)
    obtain ⟨hU, hN, -, -, hV, -⟩ := id hE
    obtain ⟨sa, hstr⟩ := zV_T461 hV
    have hat := vx_hat (fun w h => hts w (List.mem_cons_of_mem _ (List.mem_append_right _ h))) zx_bzI (zB.of hV (zV_C_zI hV))
    exact vx_throwSW hx hb htr hown (by decide +kernel) (by decide +kernel) (hts (.classLink RX6 361 zI) (by decide +kernel)) (hts (.initialized zI) (by decide +kernel)) hstr hat zx_gzI hU hN hS (hl.1.trans hml.symm) dX6_needTeam_12 dX6_needTeam_15 dX6_needTeam_16 dX6_needTeam_19 dX6_needTeam_22 (fun x hx9 => absurd (hxt x hx9) id) (Nat.le_of_ble_eq_true rfl) (Nat.le_of_ble_eq_true rfl) (Nat.le_of_ble_eq_true rfl) (Nat.le_of_ble_eq_true rfl) hlocks (fun t _ h1 h2 => zX.of hS h1 h2) hS.2.2 (Nat.le_of_ble_eq_true rfl) (Nat.le_of_ble_eq_true rfl)

theorem dX6_needDog_0 : decode cX6_needDog 0 = .ok (.iload_n 1, 1) := by decide +kernel
theorem dX6_needDog_1 : decode cX6_needDog 1 = .ok (.ifCond .lt 11, 3) := by decide +kernel
theorem dX6_needDog_4 : decode cX6_needDog 4 = .ok (.iload_n 1, 1) := by decide +kernel
theorem dX6_needDog_5 : decode cX6_needDog 5 = .ok (.aload_n 0, 1) := by decide +kernel
theorem dX6_needDog_6 : decode cX6_needDog 6 = .ok (.getfield 102, 3) := by decide +kernel
theorem dX6_needDog_9 : decode cX6_needDog 9 = .ok (.if_icmp .lt 14, 3) := by decide +kernel
theorem dX6_needDog_12 : decode cX6_needDog 12 = .ok (.new 361, 3) := by decide +kernel
theorem dX6_needDog_15 : decode cX6_needDog 15 = .ok (.dup, 1) := by decide +kernel
theorem dX6_needDog_16 : decode cX6_needDog 16 = .ok (.ldc_w 463, 3) := by decide +kernel
theorem dX6_needDog_19 : decode cX6_needDog 19 = .ok (.invokespecial 365, 3) := by decide +kernel
theorem dX6_needDog_22 : decode cX6_needDog 22 = .ok (.athrow, 1) := by decide +kernel
set_option maxHeartbeats 4000000 in
set_option maxRecDepth 100000 in
theorem c_X6_needDog (l : Launch) (htr : l.stackTraces = false) (dC : Nat → ClassId) (dI : Nat → Nat → Nat) (e0 sz : Nat) (h0 : Nat) (a : Nat → Nat) (p0 : Int32) : vx_Met l yX6_needDog wsX6_needDog ({ frames := 6, cells := 1, slots := 6, locals := 90 }) (va_Pc [.ref h0, .int p0] (fun U => U.heap.size = sz ∧ va_P (dC, dI) vwCl [(h0, .inr (11, zC a))] U.heap ∧ va_K (dC, dI) vwCl [] U ∧ va_D (fun _ => True) [(h0, .inr (11, zC a))] ∧ zE e0 (va_A [(h0, .inr (11, zC a))] sz) U U.heap)) (va_Qv (fun _ : Unit => False) (fun _ t => True) (va_A [(h0, .inr (11, zC a))] sz)) (zX zI (va_A [(h0, .inr (11, zC a))] sz)) 1 6 (va_A [(h0, .inr (11, zC a))] sz) := by
  refine vx_ofW (cc := cX6_needDog) (maxL := 2) (ret := none) (by decide) rfl ?_
  intro p e s m args below meth c s₁ B hml hxt hv
  obtain ⟨rfl, hsz, hP, hK, hD0, hE⟩ := hv
  have hx := B.exec
  have hb := B.bytes
  have hr := B.returns
  have hts := atoms_spec (ws := wsX6_needDog) B.pre
  have hown : s.vm.findClass RX6 = some m.cls := findClass_of_methodNamed B.named
  have hlocks := B.notSynchronized
  subst hsz
  have hD := hD0.self (sz := s.heap.size)
  generalize hAe : va_A [(h0, .inr (11, zC a))] s.heap.size = A at hD hE ⊢
  have hA : ∀ q : Nat, s.heap.size ≤ q → A q := fun q h => by rw [← hAe]; exact Or.inr h
  have hS : va_S A s.heap s.heap [] := va_S.rf
  have hl := lv_entry ([.ref h0, .int p0]) (n := 2) (Nat.le_of_ble_eq_true rfl)
  rw [lg_entry_eq]
  generalize (lg_sl ([.ref h0, .int p0]) ++ List.replicate (2 - (lg_sl ([.ref h0, .int p0])).length) Slot.unset).toArray = ls at hl ⊢
  have hl : lv_has ls 2 [(0, .ref h0), (1, .int p0)] := hl
  refine lv_iload_n hx hb dX6_needDog_0 rfl (lv_at hl 1 rfl) ?_
  refine lv_if_lt (tgt := 12) hx hb dX6_needDog_1 (by decide) (fun c1 => ?_) (fun c1 => ?_)
  · obtain ⟨hU, hN, -, -, hV, -⟩ := id hE
    obtain ⟨sa, hstr⟩ := zV_T463 hV
    have hat := vx_hat (fun w h => hts w (List.mem_cons_of_mem _ (List.mem_append_right _ h))) zx_bzI (zB.of hV (zV_C_zI hV))
    exact vx_throwSW hx hb htr hown (by decide +kernel) (by decide +kernel) (hts (.classLink RX6 361 zI) (by decide +kernel)) (hts (.initialized zI) (by decide +kernel)) hstr hat zx_gzI hU hN hS (hl.1.trans hml.symm) dX6_needDog_12 dX6_needDog_15 dX6_needDog_16 dX6_needDog_19 dX6_needDog_22 (fun x hx9 => absurd (hxt x hx9) id) (Nat.le_of_ble_eq_true rfl) (Nat.le_of_ble_eq_true rfl) (Nat.le_of_ble_eq_true rfl) (Nat.le_of_ble_eq_true rfl) hlocks (fun t _ h1 h2 => zX.of hS h1 h2) hS.2.2 (Nat.le_of_ble_eq_true rfl) (Nat.le_of_ble_eq_true rfl)
  · refine lv_iload_n hx hb dX6_needDog_4 rfl (lv_at hl 1 rfl) ?_
    refine lv_aload_n hx hb dX6_needDog_5 rfl (lv_at hl 0 rfl) ?_
    refine va_get (D := (dC, dI)) (ci := 11) (v := .int 0) (C := RX6) (T := TX6) (N := 16) hx hb hts (by decide +kernel) hown hK hP 0 rfl rfl 5 (by decide) (hts (.fieldLink RX6 102 "Gangline" "dogCount" "I") (by decide +kernel)) (fun _ h9 => h9) rfl dX6_needDog_6 ?_
    refine lv_icmp_lt (tgt := 23) hx hb dX6_needDog_9 (by decide) (fun c2 => absurd c2 c1) (fun c2 => ?_)
    obtain ⟨hU, hN, -, -, hV, -⟩ := id hE
    obtain ⟨sa, hstr⟩ := zV_T463 hV
    have hat := vx_hat (fun w h => hts w (List.mem_cons_of_mem _ (List.mem_append_right _ h))) zx_bzI (zB.of hV (zV_C_zI hV))
    exact vx_throwSW hx hb htr hown (by decide +kernel) (by decide +kernel) (hts (.classLink RX6 361 zI) (by decide +kernel)) (hts (.initialized zI) (by decide +kernel)) hstr hat zx_gzI hU hN hS (hl.1.trans hml.symm) dX6_needDog_12 dX6_needDog_15 dX6_needDog_16 dX6_needDog_19 dX6_needDog_22 (fun x hx9 => absurd (hxt x hx9) id) (Nat.le_of_ble_eq_true rfl) (Nat.le_of_ble_eq_true rfl) (Nat.le_of_ble_eq_true rfl) (Nat.le_of_ble_eq_true rfl) hlocks (fun t _ h1 h2 => zX.of hS h1 h2) hS.2.2 (Nat.le_of_ble_eq_true rfl) (Nat.le_of_ble_eq_true rfl)

theorem dX6_needLeg_0 : decode cX6_needLeg 0 = .ok (.iload_n 1, 1) := by decide +kernel
theorem dX6_needLeg_1 : decode cX6_needLeg 1 = .ok (.ifCond .lt 11, 3) := by decide +kernel
theorem dX6_needLeg_4 : decode cX6_needLeg 4 = .ok (.iload_n 1, 1) := by decide +kernel
theorem dX6_needLeg_5 : decode cX6_needLeg 5 = .ok (.aload_n 0, 1) := by decide +kernel
theorem dX6_needLeg_6 : decode cX6_needLeg 6 = .ok (.getfield 67, 3) := by decide +kernel
theorem dX6_needLeg_9 : decode cX6_needLeg 9 = .ok (.if_icmp .lt 14, 3) := by decide +kernel
theorem dX6_needLeg_12 : decode cX6_needLeg 12 = .ok (.new 361, 3) := by decide +kernel
theorem dX6_needLeg_15 : decode cX6_needLeg 15 = .ok (.dup, 1) := by decide +kernel
theorem dX6_needLeg_16 : decode cX6_needLeg 16 = .ok (.ldc_w 457, 3) := by decide +kernel
theorem dX6_needLeg_19 : decode cX6_needLeg 19 = .ok (.invokespecial 365, 3) := by decide +kernel
theorem dX6_needLeg_22 : decode cX6_needLeg 22 = .ok (.athrow, 1) := by decide +kernel
set_option maxHeartbeats 4000000 in
set_option maxRecDepth 100000 in
theorem c_X6_needLeg (l : Launch) (htr : l.stackTraces = false) (dC : Nat → ClassId) (dI : Nat → Nat → Nat) (e0 sz : Nat) (h0 : Nat) (a : Nat → Nat) (p0 : Int32) : vx_Met l yX6_needLeg wsX6_needLeg ({ frames := 6, cells := 1, slots := 6, locals := 90 }) (va_Pc [.ref h0, .int p0] (fun U => U.heap.size = sz ∧ va_P (dC, dI) vwCl [(h0, .inr (11, zC a))] U.heap ∧ va_K (dC, dI) vwCl [] U ∧ va_D (fun _ => True) [(h0, .inr (11, zC a))] ∧ zE e0 (va_A [(h0, .inr (11, zC a))] sz) U U.heap)) (va_Qv (fun _ : Unit => False) (fun _ t => True) (va_A [(h0, .inr (11, zC a))] sz)) (zX zI (va_A [(h0, .inr (11, zC a))] sz)) 1 6 (va_A [(h0, .inr (11, zC a))] sz) := by
  refine vx_ofW (cc := cX6_needLeg) (maxL := 2) (ret := none) (by decide) rfl ?_
  intro p e s m args below meth c s₁ B hml hxt hv
  obtain ⟨rfl, hsz, hP, hK, hD0, hE⟩ := hv
  have hx := B.exec
  have hb := B.bytes
  have hr := B.returns
  have hts := atoms_spec (ws := wsX6_needLeg) B.pre
  have hown : s.vm.findClass RX6 = some m.cls := findClass_of_methodNamed B.named
  have hlocks := B.notSynchronized
  subst hsz
  have hD := hD0.self (sz := s.heap.size)
  generalize hAe : va_A [(h0, .inr (11, zC a))] s.heap.size = A at hD hE ⊢
  have hA : ∀ q : Nat, s.heap.size ≤ q → A q := fun q h => by rw [← hAe]; exact Or.inr h
  have hS : va_S A s.heap s.heap [] := va_S.rf
  have hl := lv_entry ([.ref h0, .int p0]) (n := 2) (Nat.le_of_ble_eq_true rfl)
  rw [lg_entry_eq]
  generalize (lg_sl ([.ref h0, .int p0]) ++ List.replicate (2 - (lg_sl ([.ref h0, .int p0])).length) Slot.unset).toArray = ls at hl ⊢
  have hl : lv_has ls 2 [(0, .ref h0), (1, .int p0)] := hl
  refine lv_iload_n hx hb dX6_needLeg_0 rfl (lv_at hl 1 rfl) ?_
  refine lv_if_lt (tgt := 12) hx hb dX6_needLeg_1 (by decide) (fun c1 => ?_) (fun c1 => ?_)
  · obtain ⟨hU, hN, -, -, hV, -⟩ := id hE
    obtain ⟨sa, hstr⟩ := zV_T457 hV
    have hat := vx_hat (fun w h => hts w (List.mem_cons_of_mem _ (List.mem_append_right _ h))) zx_bzI (zB.of hV (zV_C_zI hV))
    exact vx_throwSW hx hb htr hown (by decide +kernel) (by decide +kernel) (hts (.classLink RX6 361 zI) (by decide +kernel)) (hts (.initialized zI) (by decide +kernel)) hstr hat zx_gzI hU hN hS (hl.1.trans hml.symm) dX6_needLeg_12 dX6_needLeg_15 dX6_needLeg_16 dX6_needLeg_19 dX6_needLeg_22 (fun x hx9 => absurd (hxt x hx9) id) (Nat.le_of_ble_eq_true rfl) (Nat.le_of_ble_eq_true rfl) (Nat.le_of_ble_eq_true rfl) (Nat.le_of_ble_eq_true rfl) hlocks (fun t _ h1 h2 => zX.of hS h1 h2) hS.2.2 (Nat.le_of_ble_eq_true rfl) (Nat.le_of_ble_eq_true rfl)
  · refine lv_iload_n hx hb dX6_needLeg_4 rfl (lv_at hl 1 rfl) ?_
    refine lv_aload_n hx hb dX6_needLeg_5 rfl (lv_at hl 0 rfl) ?_
    refine va_get (D := (dC, dI)) (ci := 11) (v := .int 0) (C := RX6) (T := TX6) (N := 16) hx hb hts (by decide +kernel) hown hK hP 0 rfl rfl 1 (by decide) (hts (.fieldLink RX6 67 "Gangline" "legCount" "I") (by decide +kernel)) (fun _ h9 => h9) rfl dX6_needLeg_6 ?_
    refine lv_icmp_lt (tgt := 23) hx hb dX6_needLeg_9 (by decide) (fun c2 => absurd c2 c1) (fun c2 => ?_)
    obtain ⟨hU, hN, -, -, hV, -⟩ := id hE
    obtain ⟨sa, hstr⟩ := zV_T457 hV
    have hat := vx_hat (fun w h => hts w (List.mem_cons_of_mem _ (List.mem_append_right _ h))) zx_bzI (zB.of hV (zV_C_zI hV))
    exact vx_throwSW hx hb htr hown (by decide +kernel) (by decide +kernel) (hts (.classLink RX6 361 zI) (by decide +kernel)) (hts (.initialized zI) (by decide +kernel)) hstr hat zx_gzI hU hN hS (hl.1.trans hml.symm) dX6_needLeg_12 dX6_needLeg_15 dX6_needLeg_16 dX6_needLeg_19 dX6_needLeg_22 (fun x hx9 => absurd (hxt x hx9) id) (Nat.le_of_ble_eq_true rfl) (Nat.le_of_ble_eq_true rfl) (Nat.le_of_ble_eq_true rfl) (Nat.le_of_ble_eq_true rfl) hlocks (fun t _ h1 h2 => zX.of hS h1 h2) hS.2.2 (Nat.le_of_ble_eq_true rfl) (Nat.le_of_ble_eq_true rfl)

theorem dX6_needBetween_0 : decode cX6_needBetween 0 = .ok (.iload_n 1, 1) := by decide +kernel
theorem dX6_needBetween_1 : decode cX6_needBetween 1 = .ok (.iconst 1, 1) := by decide +kernel
theorem dX6_needBetween_2 : decode cX6_needBetween 2 = .ok (.if_icmp .lt 11, 3) := by decide +kernel
theorem dX6_needBetween_5 : decode cX6_needBetween 5 = .ok (.iload_n 1, 1) := by decide +kernel
theorem dX6_needBetween_6 : decode cX6_needBetween 6 = .ok (.aload_n 0, 1) := by decide +kernel
theorem dX6_needBetween_7 : decode cX6_needBetween 7 = .ok (.getfield 67, 3) := by decide +kernel
theorem dX6_needBetween_10 : decode cX6_needBetween 10 = .ok (.if_icmp .lt 14, 3) := by decide +kernel
theorem dX6_needBetween_13 : decode cX6_needBetween 13 = .ok (.new 361, 3) := by decide +kernel
theorem dX6_needBetween_16 : decode cX6_needBetween 16 = .ok (.dup, 1) := by decide +kernel
theorem dX6_needBetween_17 : decode cX6_needBetween 17 = .ok (.ldc_w 459, 3) := by decide +kernel
theorem dX6_needBetween_20 : decode cX6_needBetween 20 = .ok (.invokespecial 365, 3) := by decide +kernel
theorem dX6_needBetween_23 : decode cX6_needBetween 23 = .ok (.athrow, 1) := by decide +kernel
set_option maxHeartbeats 4000000 in
set_option maxRecDepth 100000 in
theorem c_X6_needBetween (l : Launch) (htr : l.stackTraces = false) (dC : Nat → ClassId) (dI : Nat → Nat → Nat) (e0 sz : Nat) (h0 : Nat) (a : Nat → Nat) (p0 : Int32) : vx_Met l yX6_needBetween wsX6_needBetween ({ frames := 6, cells := 1, slots := 6, locals := 90 }) (va_Pc [.ref h0, .int p0] (fun U => U.heap.size = sz ∧ va_P (dC, dI) vwCl [(h0, .inr (11, zC a))] U.heap ∧ va_K (dC, dI) vwCl [] U ∧ va_D (fun _ => True) [(h0, .inr (11, zC a))] ∧ zE e0 (va_A [(h0, .inr (11, zC a))] sz) U U.heap)) (va_Qv (fun _ : Unit => False) (fun _ t => True) (va_A [(h0, .inr (11, zC a))] sz)) (zX zI (va_A [(h0, .inr (11, zC a))] sz)) 1 6 (va_A [(h0, .inr (11, zC a))] sz) := by
  refine vx_ofW (cc := cX6_needBetween) (maxL := 2) (ret := none) (by decide) rfl ?_
  intro p e s m args below meth c s₁ B hml hxt hv
  obtain ⟨rfl, hsz, hP, hK, hD0, hE⟩ := hv
  have hx := B.exec
  have hb := B.bytes
  have hr := B.returns
  have hts := atoms_spec (ws := wsX6_needBetween) B.pre
  have hown : s.vm.findClass RX6 = some m.cls := findClass_of_methodNamed B.named
  have hlocks := B.notSynchronized
  subst hsz
  have hD := hD0.self (sz := s.heap.size)
  generalize hAe : va_A [(h0, .inr (11, zC a))] s.heap.size = A at hD hE ⊢
  have hA : ∀ q : Nat, s.heap.size ≤ q → A q := fun q h => by rw [← hAe]; exact Or.inr h
  have hS : va_S A s.heap s.heap [] := va_S.rf
  have hl := lv_entry ([.ref h0, .int p0]) (n := 2) (Nat.le_of_ble_eq_true rfl)
  rw [lg_entry_eq]
  generalize (lg_sl ([.ref h0, .int p0]) ++ List.replicate (2 - (lg_sl ([.ref h0, .int p0])).length) Slot.unset).toArray = ls at hl ⊢
  have hl : lv_has ls 2 [(0, .ref h0), (1, .int p0)] := hl
  refine lv_iload_n hx hb dX6_needBetween_0 rfl (lv_at hl 1 rfl) ?_
  refine lv_iconst (v := 1) hx hb dX6_needBetween_1 (by decide) ?_
  refine lv_icmp_lt (tgt := 13) hx hb dX6_needBetween_2 (by decide) (fun c1 => ?_) (fun c1 => ?_)
  · obtain ⟨hU, hN, -, -, hV, -⟩ := id hE
    obtain ⟨sa, hstr⟩ := zV_T459 hV
    have hat := vx_hat (fun w h => hts w (List.mem_cons_of_mem _ (List.mem_append_right _ h))) zx_bzI (zB.of hV (zV_C_zI hV))
    exact vx_throwSW hx hb htr hown (by decide +kernel) (by decide +kernel) (hts (.classLink RX6 361 zI) (by decide +kernel)) (hts (.initialized zI) (by decide +kernel)) hstr hat zx_gzI hU hN hS (hl.1.trans hml.symm) dX6_needBetween_13 dX6_needBetween_16 dX6_needBetween_17 dX6_needBetween_20 dX6_needBetween_23 (fun x hx9 => absurd (hxt x hx9) id) (Nat.le_of_ble_eq_true rfl) (Nat.le_of_ble_eq_true rfl) (Nat.le_of_ble_eq_true rfl) (Nat.le_of_ble_eq_true rfl) hlocks (fun t _ h1 h2 => zX.of hS h1 h2) hS.2.2 (Nat.le_of_ble_eq_true rfl) (Nat.le_of_ble_eq_true rfl)
  · refine lv_iload_n hx hb dX6_needBetween_5 rfl (lv_at hl 1 rfl) ?_
    refine lv_aload_n hx hb dX6_needBetween_6 rfl (lv_at hl 0 rfl) ?_
    refine va_get (D := (dC, dI)) (ci := 11) (v := .int 0) (C := RX6) (T := TX6) (N := 16) hx hb hts (by decide +kernel) hown hK hP 0 rfl rfl 1 (by decide) (hts (.fieldLink RX6 67 "Gangline" "legCount" "I") (by decide +kernel)) (fun _ h9 => h9) rfl dX6_needBetween_7 ?_
    refine lv_icmp_lt (tgt := 24) hx hb dX6_needBetween_10 (by decide) (fun c2 => absurd (Int32.lt_trans c2 (by decide : (0 : Int32) < 1)) c1) (fun c2 => ?_)
    obtain ⟨hU, hN, -, -, hV, -⟩ := id hE
    obtain ⟨sa, hstr⟩ := zV_T459 hV
    have hat := vx_hat (fun w h => hts w (List.mem_cons_of_mem _ (List.mem_append_right _ h))) zx_bzI (zB.of hV (zV_C_zI hV))
    exact vx_throwSW hx hb htr hown (by decide +kernel) (by decide +kernel) (hts (.classLink RX6 361 zI) (by decide +kernel)) (hts (.initialized zI) (by decide +kernel)) hstr hat zx_gzI hU hN hS (hl.1.trans hml.symm) dX6_needBetween_13 dX6_needBetween_16 dX6_needBetween_17 dX6_needBetween_20 dX6_needBetween_23 (fun x hx9 => absurd (hxt x hx9) id) (Nat.le_of_ble_eq_true rfl) (Nat.le_of_ble_eq_true rfl) (Nat.le_of_ble_eq_true rfl) (Nat.le_of_ble_eq_true rfl) hlocks (fun t _ h1 h2 => zX.of hS h1 h2) hS.2.2 (Nat.le_of_ble_eq_true rfl) (Nat.le_of_ble_eq_true rfl)
