theorem dX6_needRange_0 : decode cX6_needRange 0 = .ok (.iload_n 0, 1) := by decide +kernel
theorem dX6_needRange_1 : decode cX6_needRange 1 = .ok (.iload_n 1, 1) := by decide +kernel
theorem dX6_needRange_2 : decode cX6_needRange 2 = .ok (.if_icmp .lt 8, 3) := by decide +kernel
theorem dX6_needRange_5 : decode cX6_needRange 5 = .ok (.iload_n 0, 1) := by decide +kernel
theorem dX6_needRange_6 : decode cX6_needRange 6 = .ok (.iload_n 2, 1) := by decide +kernel
theorem dX6_needRange_7 : decode cX6_needRange 7 = .ok (.if_icmp .le 14, 3) := by decide +kernel
theorem dX6_needRange_21 : decode cX6_needRange 21 = .ok (.return_, 1) := by decide +kernel
set_option maxHeartbeats 4000000 in
set_option maxRecDepth 100000 in
theorem c_X6_needRange_in (l : Launch) (htr : l.stackTraces = false) (dC : Nat → ClassId) (dI : Nat → Nat → Nat) (e0 sz : Nat) (p0 : Int32) (p1 : Int32) (p2 : Int32) (h : p1 ≤ p0 ∧ p0 ≤ p2) : Met l yX6_needRange wsX6_needRange ({ frames := 0, cells := 0, slots := 0, locals := 0 }) (va_Pc [.int p0, .int p1, .int p2] (fun U => U.heap.size = sz ∧ va_P (dC, dI) vwCl [] U.heap ∧ va_K (dC, dI) vwCl [] U ∧ va_D (fun _ => True) [])) (va_Qv (fun _ : Unit => True) (fun _ t => True) (va_A [] sz)) 0 0 (va_A [] sz) := by
  refine Met.ofW (cc := cX6_needRange) (maxL := 3) (ret := none) (by decide) rfl ?_
  intro p e s m args below meth c s₁ B hml hv
  obtain ⟨rfl, hsz, hP, hK, hD0⟩ := hv
  have hx := B.exec
  have hb := B.bytes
  have hr := B.returns
  have hts := atoms_spec (ws := wsX6_needRange) B.pre
  have hown : s.vm.findClass RX6 = some m.cls := findClass_of_methodNamed B.named
  have hlocks := B.notSynchronized
  subst hsz
  have hD := hD0.self (sz := s.heap.size)
  generalize hAe : va_A [] s.heap.size = A at hD ⊢
  have hA : ∀ q : Nat, s.heap.size ≤ q → A q := fun q h => by rw [← hAe]; exact Or.inr h
  have hS : va_S A s.heap s.heap [] := va_S.rf
  have hl := lv_entry ([.int p0, .int p1, .int p2]) (n := 3) (Nat.le_of_ble_eq_true rfl)
  rw [lg_entry_eq]
  generalize (lg_sl ([.int p0, .int p1, .int p2]) ++ List.replicate (3 - (lg_sl ([.int p0, .int p1, .int p2])).length) Slot.unset).toArray = ls at hl ⊢
  have hl : lv_has ls 3 [(0, .int p0), (1, .int p1), (2, .int p2)] := hl
  refine lv_iload_n hx hb dX6_needRange_0 rfl (lv_at hl 0 rfl) ?_
  refine lv_iload_n hx hb dX6_needRange_1 rfl (lv_at hl 1 rfl) ?_
  refine lv_icmp_lt (tgt := 10) hx hb dX6_needRange_2 (by decide) (fun c1 => absurd c1 (Int32.not_lt.mpr h.1)) (fun c1 => ?_)
  refine lv_iload_n hx hb dX6_needRange_5 rfl (lv_at hl 0 rfl) ?_
  refine lv_iload_n hx hb dX6_needRange_6 rfl (lv_at hl 2 rfl) ?_
  refine lv_icmp_le (tgt := 21) hx hb dX6_needRange_7 (by decide) (fun c2 => ?_) (fun c2 => absurd h.2 c2)
  exact W.vret hx hb hr (fun t ht hW => ⟨⟨(), rfl, trivial, trivial⟩, hS.F ht⟩) hS.2.2 dX6_needRange_21

theorem dX6_needRange_10 : decode cX6_needRange 10 = .ok (.new 255, 3) := by decide +kernel
theorem dX6_needRange_13 : decode cX6_needRange 13 = .ok (.dup, 1) := by decide +kernel
theorem dX6_needRange_14 : decode cX6_needRange 14 = .ok (.ldc_w 448, 3) := by decide +kernel
theorem dX6_needRange_17 : decode cX6_needRange 17 = .ok (.invokespecial 259, 3) := by decide +kernel
theorem dX6_needRange_20 : decode cX6_needRange 20 = .ok (.athrow, 1) := by decide +kernel
set_option maxHeartbeats 4000000 in
set_option maxRecDepth 100000 in
theorem c_X6_needRange_no (l : Launch) (htr : l.stackTraces = false) (dC : Nat → ClassId) (dI : Nat → Nat → Nat) (e0 sz : Nat) (p0 : Int32) (p1 : Int32) (p2 : Int32) (h : ¬ (p1 ≤ p0 ∧ p0 ≤ p2)) : vx_Met l yX6_needRange wsX6_needRange ({ frames := 6, cells := 1, slots := 6, locals := 90 }) (va_Pc [.int p0, .int p1, .int p2] (fun U => U.heap.size = sz ∧ va_P (dC, dI) vwCl [] U.heap ∧ va_K (dC, dI) vwCl [] U ∧ va_D (fun _ => True) [] ∧ zE e0 (va_A [] sz) U U.heap)) (va_Qv (fun _ : Unit => False) (fun _ t => True) (va_A [] sz)) (zX zG (va_A [] sz)) 1 6 (va_A [] sz) := by
  refine vx_ofW (cc := cX6_needRange) (maxL := 3) (ret := none) (by decide) rfl ?_
  intro p e s m args below meth c s₁ B hml hxt hv
  obtain ⟨rfl, hsz, hP, hK, hD0, hE⟩ := hv
  have hx := B.exec
  have hb := B.bytes
  have hr := B.returns
  have hts := atoms_spec (ws := wsX6_needRange) B.pre
  have hown : s.vm.findClass RX6 = some m.cls := findClass_of_methodNamed B.named
  have hlocks := B.notSynchronized
  subst hsz
  have hD := hD0.self (sz := s.heap.size)
  generalize hAe : va_A [] s.heap.size = A at hD hE ⊢
  have hA : ∀ q : Nat, s.heap.size ≤ q → A q := fun q h => by rw [← hAe]; exact Or.inr h
  have hS : va_S A s.heap s.heap [] := va_S.rf
  have hl := lv_entry ([.int p0, .int p1, .int p2]) (n := 3) (Nat.le_of_ble_eq_true rfl)
  rw [lg_entry_eq]
  generalize (lg_sl ([.int p0, .int p1, .int p2]) ++ List.replicate (3 - (lg_sl ([.int p0, .int p1, .int p2])).length) Slot.unset).toArray = ls at hl ⊢
  have hl : lv_has ls 3 [(0, .int p0), (1, .int p1), (2, .int p2)] := hl
  refine lv_iload_n hx hb dX6_needRange_0 rfl (lv_at hl 0 rfl) ?_
  refine lv_iload_n hx hb dX6_needRange_1 rfl (lv_at hl 1 rfl) ?_
  refine lv_icmp_lt (tgt := 10) hx hb dX6_needRange_2 (by decide) (fun c1 => ?_) (fun c1 => ?_)
  · obtain ⟨hU, hN, -, -, hV, -⟩ := id hE
    obtain ⟨sa, hstr⟩ := zV_T448 hV
    have hat := vx_hat (fun w h => hts w (List.mem_cons_of_mem _ (List.mem_append_right _ h))) zx_bzG (zB.of hV (zV_C_zG hV))
    exact vx_throwSW hx hb htr hown (by decide +kernel) (by decide +kernel) (hts (.classLink RX6 255 zG) (by decide +kernel)) (hts (.initialized zG) (by decide +kernel)) hstr hat zx_gzG hU hN hS (hl.1.trans hml.symm) dX6_needRange_10 dX6_needRange_13 dX6_needRange_14 dX6_needRange_17 dX6_needRange_20 (fun x hx9 => absurd (hxt x hx9) id) (Nat.le_of_ble_eq_true rfl) (Nat.le_of_ble_eq_true rfl) (Nat.le_of_ble_eq_true rfl) (Nat.le_of_ble_eq_true rfl) hlocks (fun t _ h1 h2 => zX.of hS h1 h2) hS.2.2 (Nat.le_of_ble_eq_true rfl) (Nat.le_of_ble_eq_true rfl)
  · refine lv_iload_n hx hb dX6_needRange_5 rfl (lv_at hl 0 rfl) ?_
    refine lv_iload_n hx hb dX6_needRange_6 rfl (lv_at hl 2 rfl) ?_
    refine lv_icmp_le (tgt := 21) hx hb dX6_needRange_7 (by decide) (fun c2 => absurd ⟨Int32.not_lt.mp c1, c2⟩ h) (fun c2 => ?_)
    obtain ⟨hU, hN, -, -, hV, -⟩ := id hE
    obtain ⟨sa, hstr⟩ := zV_T448 hV
    have hat := vx_hat (fun w h => hts w (List.mem_cons_of_mem _ (List.mem_append_right _ h))) zx_bzG (zB.of hV (zV_C_zG hV))
    exact vx_throwSW hx hb htr hown (by decide +kernel) (by decide +kernel) (hts (.classLink RX6 255 zG) (by decide +kernel)) (hts (.initialized zG) (by decide +kernel)) hstr hat zx_gzG hU hN hS (hl.1.trans hml.symm) dX6_needRange_10 dX6_needRange_13 dX6_needRange_14 dX6_needRange_17 dX6_needRange_20 (fun x hx9 => absurd (hxt x hx9) id) (Nat.le_of_ble_eq_true rfl) (Nat.le_of_ble_eq_true rfl) (Nat.le_of_ble_eq_true rfl) (Nat.le_of_ble_eq_true rfl) hlocks (fun t _ h1 h2 => zX.of hS h1 h2) hS.2.2 (Nat.le_of_ble_eq_true rfl) (Nat.le_of_ble_eq_true rfl)

theorem dX6_needRoom_0 : decode cX6_needRoom 0 = .ok (.iload_n 0, 1) := by decide +kernel
theorem dX6_needRoom_1 : decode cX6_needRoom 1 = .ok (.iload_n 1, 1) := by decide +kernel
theorem dX6_needRoom_2 : decode cX6_needRoom 2 = .ok (.if_icmp .lt 14, 3) := by decide +kernel
theorem dX6_needRoom_16 : decode cX6_needRoom 16 = .ok (.return_, 1) := by decide +kernel
set_option maxHeartbeats 4000000 in
set_option maxRecDepth 100000 in
theorem c_X6_needRoom (l : Launch) (htr : l.stackTraces = false) (dC : Nat → ClassId) (dI : Nat → Nat → Nat) (e0 sz : Nat) (p0 : Int32) (p1 : Int32) (h : p0 < p1) : Met l yX6_needRoom wsX6_needRoom ({ frames := 0, cells := 0, slots := 0, locals := 0 }) (va_Pc [.int p0, .int p1] (fun U => U.heap.size = sz ∧ va_P (dC, dI) vwCl [] U.heap ∧ va_K (dC, dI) vwCl [] U ∧ va_D (fun _ => True) [])) (va_Qv (fun _ : Unit => True) (fun _ t => True) (va_A [] sz)) 0 0 (va_A [] sz) := by
  refine Met.ofW (cc := cX6_needRoom) (maxL := 2) (ret := none) (by decide) rfl ?_
  intro p e s m args below meth c s₁ B hml hv
  obtain ⟨rfl, hsz, hP, hK, hD0⟩ := hv
  have hx := B.exec
  have hb := B.bytes
  have hr := B.returns
  have hts := atoms_spec (ws := wsX6_needRoom) B.pre
  have hown : s.vm.findClass RX6 = some m.cls := findClass_of_methodNamed B.named
  have hlocks := B.notSynchronized
  subst hsz
  have hD := hD0.self (sz := s.heap.size)
  generalize hAe : va_A [] s.heap.size = A at hD ⊢
  have hA : ∀ q : Nat, s.heap.size ≤ q → A q := fun q h => by rw [← hAe]; exact Or.inr h
  have hS : va_S A s.heap s.heap [] := va_S.rf
  have hl := lv_entry ([.int p0, .int p1]) (n := 2) (Nat.le_of_ble_eq_true rfl)
  rw [lg_entry_eq]
  generalize (lg_sl ([.int p0, .int p1]) ++ List.replicate (2 - (lg_sl ([.int p0, .int p1])).length) Slot.unset).toArray = ls at hl ⊢
  have hl : lv_has ls 2 [(0, .int p0), (1, .int p1)] := hl
  refine lv_iload_n hx hb dX6_needRoom_0 rfl (lv_at hl 0 rfl) ?_
  refine lv_iload_n hx hb dX6_needRoom_1 rfl (lv_at hl 1 rfl) ?_
  refine lv_icmp_lt (tgt := 16) hx hb dX6_needRoom_2 (by decide) (fun c1 => ?_) (fun c1 => absurd h c1)
  exact W.vret hx hb hr (fun t ht hW => ⟨⟨(), rfl, trivial, trivial⟩, hS.F ht⟩) hS.2.2 dX6_needRoom_16

theorem dX6_needNobodyOnWay_0 : decode cX6_needNobodyOnWay 0 = .ok (.iconst 0, 1) := by decide +kernel
theorem dX6_needNobodyOnWay_1 : decode cX6_needNobodyOnWay 1 = .ok (.istore_n 1, 1) := by decide +kernel
theorem dX6_needNobodyOnWay_2 : decode cX6_needNobodyOnWay 2 = .ok (.iload_n 1, 1) := by decide +kernel
theorem dX6_needNobodyOnWay_3 : decode cX6_needNobodyOnWay 3 = .ok (.aload_n 0, 1) := by decide +kernel
theorem dX6_needNobodyOnWay_4 : decode cX6_needNobodyOnWay 4 = .ok (.getfield 95, 3) := by decide +kernel
theorem dX6_needNobodyOnWay_7 : decode cX6_needNobodyOnWay 7 = .ok (.if_icmp .ge 34, 3) := by decide +kernel
theorem dX6_needNobodyOnWay_41 : decode cX6_needNobodyOnWay 41 = .ok (.return_, 1) := by decide +kernel
set_option maxHeartbeats 4000000 in
set_option maxRecDepth 100000 in
theorem c_X6_needNobodyOnWay (l : Launch) (htr : l.stackTraces = false) (dC : Nat → ClassId) (dI : Nat → Nat → Nat) (e0 sz : Nat) (h0 : Nat) (a : Nat → Nat) : Met l yX6_needNobodyOnWay wsX6_needNobodyOnWay ({ frames := 0, cells := 0, slots := 0, locals := 0 }) (va_Pc [.ref h0] (fun U => U.heap.size = sz ∧ va_P (dC, dI) vwCl [(h0, .inr (11, zC a))] U.heap ∧ va_K (dC, dI) vwCl [] U ∧ va_D (fun _ => True) [(h0, .inr (11, zC a))])) (va_Qv (fun _ : Unit => True) (fun _ t => va_P (dC, dI) vwCl [(h0, .inr (11, zC a))] t.heap ∧ va_K (dC, dI) vwCl [] t ∧ va_D (va_A [(h0, .inr (11, zC a))] sz) [(h0, .inr (11, zC a))]) (va_A [(h0, .inr (11, zC a))] sz)) 0 0 (va_A [(h0, .inr (11, zC a))] sz) := by
  refine Met.ofW (cc := cX6_needNobodyOnWay) (maxL := 2) (ret := none) (by decide) rfl ?_
  intro p e s m args below meth c s₁ B hml hv
  obtain ⟨rfl, hsz, hP, hK, hD0⟩ := hv
  have hx := B.exec
  have hb := B.bytes
  have hr := B.returns
  have hts := atoms_spec (ws := wsX6_needNobodyOnWay) B.pre
  have hown : s.vm.findClass RX6 = some m.cls := findClass_of_methodNamed B.named
  have hlocks := B.notSynchronized
  subst hsz
  have hD := hD0.self (sz := s.heap.size)
  generalize hAe : va_A [(h0, .inr (11, zC a))] s.heap.size = A at hD ⊢
  have hA : ∀ q : Nat, s.heap.size ≤ q → A q := fun q h => by rw [← hAe]; exact Or.inr h
  have hS : va_S A s.heap s.heap [] := va_S.rf
  have hl := lv_entry ([.ref h0]) (n := 2) (Nat.le_of_ble_eq_true rfl)
  rw [lg_entry_eq]
  generalize (lg_sl ([.ref h0]) ++ List.replicate (2 - (lg_sl ([.ref h0])).length) Slot.unset).toArray = ls at hl ⊢
  have hl : lv_has ls 2 [(0, .ref h0)] := hl
  refine lv_iconst (v := 0) hx hb dX6_needNobodyOnWay_0 (by decide) ?_
  refine lv_istore_n (lv' := [(1, .int 0), (0, .ref h0)]) hx hb dX6_needNobodyOnWay_1 rfl hl (by decide) rfl (fun ls hl => ?_)
  refine lv_iload_n hx hb dX6_needNobodyOnWay_2 rfl (lv_at hl 0 rfl) ?_
  refine lv_aload_n hx hb dX6_needNobodyOnWay_3 rfl (lv_at hl 1 rfl) ?_
  refine va_get (D := (dC, dI)) (ci := 11) (v := .int 0) (C := RX6) (T := TX6) (N := 16) hx hb hts (by decide +kernel) hown hK hP 0 rfl rfl 7 (by decide) (hts (.fieldLink RX6 95 "Gangline" "teamCount" "I") (by decide +kernel)) (fun _ h9 => h9) rfl dX6_needNobodyOnWay_4 ?_
  refine lv_icmp_ge (tgt := 41) hx hb dX6_needNobodyOnWay_7 (by decide) (fun _ => ?_) (fun c1 => absurd (by decide) c1)
  have hP9 := hP.sub (ws' := [(h0, .inr (11, zC a))]) [0] rfl
  have hD9 := hD.sub (ws' := [(h0, .inr (11, zC a))]) [0] (by decide) rfl
  have hK9 := hK.sub (tys' := []) [] rfl
  exact W.vret hx hb hr (fun t ht hW => ⟨⟨(), rfl, trivial, ⟨by rw [ht]; exact hP9, va_K.moved hW.alike hK9, hD9⟩⟩, hS.F ht⟩) hS.2.2 dX6_needNobodyOnWay_41

set_option maxRecDepth 20000 in
theorem ggX6_leg_X1_init : GoodIn wsX6_leg wsX1_init := goodIn_r _ [32, 33, 34, 35, 36, 37, 38, 39, 56, 57, 58, 59, 60] (by decide +kernel) (by decide +kernel)
set_option maxRecDepth 20000 in
theorem gX6_leg_X1_init : GoodIn wsX6_leg (wsX1_init) := ggX6_leg_X1_init
set_option maxRecDepth 20000 in
theorem ggX6_leg_X6_needNobodyOnWay : GoodIn wsX6_leg wsX6_needNobodyOnWay := goodIn_ca (goodIn_r _ [15, 16, 17, 18, 19, 20, 21, 8, 22, 23, 24, 40, 41, 42, 43, 44, 45, 46, 47, 48, 49, 50, 51, 52, 53, 54, 55, 61, 62, 63, 64, 65, 66, 67, 68, 69, 70, 71, 72, 73, 74, 75, 76, 77, 78, 79, 80, 81, 82] (by decide +kernel) (by decide +kernel)) (goodIn_sub (fun _ h => List.mem_cons_of_mem _ (List.mem_append_left _ (List.mem_append_right _ h))) (by decide +kernel))
set_option maxRecDepth 20000 in
theorem gX6_leg_X6_needNobodyOnWay : GoodIn wsX6_leg (wsV RX6 64 RX6 yX6_needNobodyOnWay wsX6_needNobodyOnWay) := goodIn_app (goodIn_of _ (by decide +kernel)) ggX6_leg_X6_needNobodyOnWay
set_option maxRecDepth 20000 in
theorem ggX6_leg_X6_needRange : GoodIn wsX6_leg wsX6_needRange := goodIn_ca (goodIn_r _ [9, 10, 11] (by decide +kernel) (by decide +kernel)) (goodIn_sub (fun _ h => List.mem_cons_of_mem _ (List.mem_append_left _ (List.mem_append_left _ (List.mem_append_right _ h)))) (by decide +kernel))
set_option maxRecDepth 20000 in
theorem gX6_leg_X6_needRange : GoodIn wsX6_leg (va_wsS RX6 60 yX6_needRange wsX6_needRange) := goodIn_app (goodIn_of _ (by decide +kernel)) ggX6_leg_X6_needRange
set_option maxRecDepth 20000 in
theorem ggX6_leg_X6_needRoom : GoodIn wsX6_leg wsX6_needRoom := goodIn_ca (goodIn_r _ [27, 28, 29] (by decide +kernel) (by decide +kernel)) (goodIn_sub (fun _ h => List.mem_cons_of_mem _ (List.mem_append_right _ h)) (by decide +kernel))
set_option maxRecDepth 20000 in
theorem gX6_leg_X6_needRoom : GoodIn wsX6_leg (va_wsS RX6 71 yX6_needRoom wsX6_needRoom) := goodIn_app (goodIn_of _ (by decide +kernel)) ggX6_leg_X6_needRoom
theorem dX6_leg_0 : decode cX6_leg 0 = .ok (.iload_n 1, 1) := by decide +kernel
theorem dX6_leg_1 : decode cX6_leg 1 = .ok (.iconst 5, 1) := by decide +kernel
theorem dX6_leg_2 : decode cX6_leg 2 = .ok (.bipush 120, 2) := by decide +kernel
theorem dX6_leg_4 : decode cX6_leg 4 = .ok (.invokestatic 60, 3) := by decide +kernel
theorem dX6_leg_7 : decode cX6_leg 7 = .ok (.iload_n 2, 1) := by decide +kernel
theorem dX6_leg_8 : decode cX6_leg 8 = .ok (.iconst 0, 1) := by decide +kernel
theorem dX6_leg_9 : decode cX6_leg 9 = .ok (.bipush 9, 2) := by decide +kernel
theorem dX6_leg_11 : decode cX6_leg 11 = .ok (.invokestatic 60, 3) := by decide +kernel
theorem dX6_leg_14 : decode cX6_leg 14 = .ok (.iload_n 3, 1) := by decide +kernel
theorem dX6_leg_15 : decode cX6_leg 15 = .ok (.bipush (-9), 2) := by decide +kernel
theorem dX6_leg_17 : decode cX6_leg 17 = .ok (.bipush 9, 2) := by decide +kernel
theorem dX6_leg_19 : decode cX6_leg 19 = .ok (.invokestatic 60, 3) := by decide +kernel
theorem dX6_leg_22 : decode cX6_leg 22 = .ok (.aload_n 0, 1) := by decide +kernel
theorem dX6_leg_23 : decode cX6_leg 23 = .ok (.invokevirtual 64, 3) := by decide +kernel
theorem dX6_leg_26 : decode cX6_leg 26 = .ok (.aload_n 0, 1) := by decide +kernel
theorem dX6_leg_27 : decode cX6_leg 27 = .ok (.getfield 67, 3) := by decide +kernel
theorem dX6_leg_30 : decode cX6_leg 30 = .ok (.bipush 10, 2) := by decide +kernel
theorem dX6_leg_32 : decode cX6_leg 32 = .ok (.invokestatic 71, 3) := by decide +kernel
theorem dX6_leg_35 : decode cX6_leg 35 = .ok (.aload_n 0, 1) := by decide +kernel
theorem dX6_leg_36 : decode cX6_leg 36 = .ok (.getfield 11, 3) := by decide +kernel
theorem dX6_leg_39 : decode cX6_leg 39 = .ok (.aload_n 0, 1) := by decide +kernel
theorem dX6_leg_40 : decode cX6_leg 40 = .ok (.getfield 67, 3) := by decide +kernel
theorem dX6_leg_43 : decode cX6_leg 43 = .ok (.new 9, 3) := by decide +kernel
theorem dX6_leg_46 : decode cX6_leg 46 = .ok (.dup, 1) := by decide +kernel
theorem dX6_leg_47 : decode cX6_leg 47 = .ok (.iload_n 1, 1) := by decide +kernel
theorem dX6_leg_48 : decode cX6_leg 48 = .ok (.iload_n 2, 1) := by decide +kernel
theorem dX6_leg_49 : decode cX6_leg 49 = .ok (.iload_n 3, 1) := by decide +kernel
theorem dX6_leg_50 : decode cX6_leg 50 = .ok (.invokespecial 75, 3) := by decide +kernel
theorem dX6_leg_53 : decode cX6_leg 53 = .ok (.aastore, 1) := by decide +kernel
theorem dX6_leg_54 : decode cX6_leg 54 = .ok (.aload_n 0, 1) := by decide +kernel
theorem dX6_leg_55 : decode cX6_leg 55 = .ok (.dup, 1) := by decide +kernel
theorem dX6_leg_56 : decode cX6_leg 56 = .ok (.getfield 67, 3) := by decide +kernel
theorem dX6_leg_59 : decode cX6_leg 59 = .ok (.iconst 1, 1) := by decide +kernel
theorem dX6_leg_60 : decode cX6_leg 60 = .ok (.iadd, 1) := by decide +kernel
theorem dX6_leg_61 : decode cX6_leg 61 = .ok (.putfield 67, 3) := by decide +kernel
theorem dX6_leg_64 : decode cX6_leg 64 = .ok (.aload_n 0, 1) := by decide +kernel
theorem dX6_leg_65 : decode cX6_leg 65 = .ok (.getfield 67, 3) := by decide +kernel
theorem dX6_leg_68 : decode cX6_leg 68 = .ok (.iconst 1, 1) := by decide +kernel
theorem dX6_leg_69 : decode cX6_leg 69 = .ok (.isub, 1) := by decide +kernel
theorem dX6_leg_70 : decode cX6_leg 70 = .ok (.ireturn, 1) := by decide +kernel
set_option maxHeartbeats 4000000 in
set_option maxRecDepth 100000 in
theorem c_X6_leg_in (l : Launch) (htr : l.stackTraces = false) (dC : Nat → ClassId) (dI : Nat → Nat → Nat) (e0 sz : Nat) (h0 : Nat) (a : Nat → Nat) (cL : ClassId) (p0 : Int32) (p1 : Int32) (p2 : Int32) (hin : (5 ≤ p0 ∧ p0 ≤ 120) ∧ (0 ≤ p1 ∧ p1 ≤ 9) ∧ ((-9) ≤ p2 ∧ p2 ≤ 9)) : Met l yX6_leg wsX6_leg ({ frames := 2, cells := 1, slots := 5, locals := 35 }) (va_Pc [.ref h0, .int p0, .int p1, .int p2] (fun U => U.heap.size = sz ∧ va_P (dC, dI) vwCl [(h0, .inr (11, zC a)), ((a 0), .inl (cL, 10, .inr (.inr (.inr (.inr (fun _ => none))))))] U.heap ∧ va_K (dC, dI) vwCl [(cL, (.object RX1))] U ∧ va_D (fun _ => True) [(h0, .inr (11, zC a)), ((a 0), .inl (cL, 10, .inr (.inr (.inr (.inr (fun _ => none))))))] ∧ zE e0 (va_A [(h0, .inr (11, zC a)), ((a 0), .inl (cL, 10, .inr (.inr (.inr (.inr (fun _ => none))))))] sz) U U.heap)) (va_Qi (fun (r : Int32) (_ : Unit) => r = 0) (fun _ t => True) (va_A [(h0, .inr (11, zC a)), ((a 0), .inl (cL, 10, .inr (.inr (.inr (.inr (fun _ => none))))))] sz)) 1 5 (va_A [(h0, .inr (11, zC a)), ((a 0), .inl (cL, 10, .inr (.inr (.inr (.inr (fun _ => none))))))] sz) := by
  refine Met.ofW (cc := cX6_leg) (maxL := 4) (ret := (some .int)) (by decide) rfl ?_
  intro p e s m args below meth c s₁ B hml hv
  obtain ⟨rfl, hsz, hP, hK, hD0, hE⟩ := hv
  have hx := B.exec
  have hb := B.bytes
  have hr := B.returns
  have hts := atoms_spec (ws := wsX6_leg) B.pre
  have hown : s.vm.findClass RX6 = some m.cls := findClass_of_methodNamed B.named
  have hlocks := B.notSynchronized
  subst hsz
  have hD := hD0.self (sz := s.heap.size)
  generalize hAe : va_A [(h0, .inr (11, zC a)), ((a 0), .inl (cL, 10, .inr (.inr (.inr (.inr (fun _ => none))))))] s.heap.size = A at hD hE ⊢
  have hA : ∀ q : Nat, s.heap.size ≤ q → A q := fun q h => by rw [← hAe]; exact Or.inr h
  have hS : va_S A s.heap s.heap [] := va_S.rf
  have hl := lv_entry ([.ref h0, .int p0, .int p1, .int p2]) (n := 4) (Nat.le_of_ble_eq_true rfl)
  rw [lg_entry_eq]
  generalize (lg_sl ([.ref h0, .int p0, .int p1, .int p2]) ++ List.replicate (4 - (lg_sl ([.ref h0, .int p0, .int p1, .int p2])).length) Slot.unset).toArray = ls at hl ⊢
  have hl : lv_has ls 4 [(0, .ref h0), (1, .int p0), (2, .int p1), (3, .int p2)] := hl
  refine lv_iload_n hx hb dX6_leg_0 rfl (lv_at hl 1 rfl) ?_
  refine lv_iconst (v := 5) hx hb dX6_leg_1 (by decide) ?_
  refine lv_bipush (v := 120) hx hb dX6_leg_2 (by decide) ?_
  have hPc := hP.sub (ws' := []) [] rfl
  have hDc := hD.sub (ws' := []) [] (by decide) rfl
  have hKc := hK.sub (tys' := []) [] rfl
  have hFc := va_free (wc := []) hD hS hA [] rfl
  refine va_callv (va_runS (As := [.int p0, .int 5, .int 120]) (rest := []) ⟨hx, hb, hml, hown, hts⟩ (c_X6_needRange_in l htr dC dI e0 s.heap.size p0 5 120 hin.1) (va_cwS 3 hts gX6_leg_X6_needRange rfl rfl rfl (by decide +kernel) ⟨Nat.le_of_ble_eq_true rfl, Nat.le_of_ble_eq_true rfl⟩) ⟨fun a U g mk q => by obtain ⟨q0, q1, qP, qK, qD⟩ := q; exact ⟨q0, q1, qP, va_K.moved (u := U) (U := U.calling g mk a) (Vm.Alike.refl U.vm) qK, qD⟩, fun U hU hW => ⟨rfl, by rw [hU], by rw [hU]; exact hPc, va_K.moved hW.alike hKc, hDc.weaken (fun _ _ _ _ => trivial)⟩⟩ rfl rfl hl.1 rfl (lv_room (Nat.le_of_ble_eq_true rfl)) dX6_leg_4 ⟨Nat.le_of_ble_eq_true rfl, Nat.le_of_ble_eq_true rfl⟩) hS (fun q _ h => hFc q h) hFc (fun u t H1 locs ht hvm hw hB hz1 hk1 hS => ?_)
  have hP1 : va_P (dC, dI) vwCl [] H1 := fun k q h => by simp at h
  have hD1 : va_D (va_A [] s.heap.size) [] := ⟨fun i j p q h => by simp at h, fun k q h => by simp at h⟩
  obtain ⟨hP, hD⟩ := va_join (wr := [(h0, .inr (11, zC a)), ((a 0), .inl (cL, 10, .inr (.inr (.inr (.inr (fun _ => none))))))]) (w1 := []) hP hD [] [0, 1] rfl rfl (by decide) (by decide) hk1 hFc hP1 hD1
  generalize H1 = H at hP hS ⊢
  have hP : va_P (dC, dI) vwCl [(h0, .inr (11, zC a)), ((a 0), .inl (cL, 10, .inr (.inr (.inr (.inr (fun _ => none))))))] H := hP
  have hD : va_D A [(h0, .inr (11, zC a)), ((a 0), .inl (cL, 10, .inr (.inr (.inr (.inr (fun _ => none))))))] := hD
  refine lv_iload_n hx hb dX6_leg_7 rfl (lv_at hl 2 rfl) ?_
  refine lv_iconst (v := 0) hx hb dX6_leg_8 (by decide) ?_
  refine lv_bipush (v := 9) hx hb dX6_leg_9 (by decide) ?_
  have hPc := hP.sub (ws' := []) [] rfl
  have hDc := hD.sub (ws' := []) [] (by decide) rfl
  have hKc := hK.sub (tys' := []) [] rfl
  have hFc := va_free (wc := []) hD hS hA [] rfl
  refine va_callv (va_runS (As := [.int p1, .int 0, .int 9]) (rest := []) ⟨hx, hb, hml, hown, hts⟩ (c_X6_needRange_in l htr dC dI e0 H.size p1 0 9 hin.2.1) (va_cwS 3 hts gX6_leg_X6_needRange rfl rfl rfl (by decide +kernel) ⟨Nat.le_of_ble_eq_true rfl, Nat.le_of_ble_eq_true rfl⟩) ⟨fun a U g mk q => by obtain ⟨q0, q1, qP, qK, qD⟩ := q; exact ⟨q0, q1, qP, va_K.moved (u := U) (U := U.calling g mk a) (Vm.Alike.refl U.vm) qK, qD⟩, fun U hU hW => ⟨rfl, by rw [hU], by rw [hU]; exact hPc, va_K.moved hW.alike hKc, hDc.weaken (fun _ _ _ _ => trivial)⟩⟩ rfl rfl hl.1 rfl (lv_room (Nat.le_of_ble_eq_true rfl)) dX6_leg_11 ⟨Nat.le_of_ble_eq_true rfl, Nat.le_of_ble_eq_true rfl⟩) hS (fun q _ h => hFc q h) hFc (fun u t H1 locs ht hvm hw hB hz1 hk1 hS => ?_)
  have hP1 : va_P (dC, dI) vwCl [] H1 := fun k q h => by simp at h
  have hD1 : va_D (va_A [] H.size) [] := ⟨fun i j p q h => by simp at h, fun k q h => by simp at h⟩
  obtain ⟨hP, hD⟩ := va_join (wr := [(h0, .inr (11, zC a)), ((a 0), .inl (cL, 10, .inr (.inr (.inr (.inr (fun _ => none))))))]) (w1 := []) hP hD [] [0, 1] rfl rfl (by decide) (by decide) hk1 hFc hP1 hD1
  generalize H1 = H at hP hS ⊢
  have hP : va_P (dC, dI) vwCl [(h0, .inr (11, zC a)), ((a 0), .inl (cL, 10, .inr (.inr (.inr (.inr (fun _ => none))))))] H := hP
  have hD : va_D A [(h0, .inr (11, zC a)), ((a 0), .inl (cL, 10, .inr (.inr (.inr (.inr (fun _ => none))))))] := hD
  refine lv_iload_n hx hb dX6_leg_14 rfl (lv_at hl 3 rfl) ?_
  refine lv_bipush (v := (-9)) hx hb dX6_leg_15 (by decide) ?_
  refine lv_bipush (v := 9) hx hb dX6_leg_17 (by decide) ?_
  have hPc := hP.sub (ws' := []) [] rfl
  have hDc := hD.sub (ws' := []) [] (by decide) rfl
  have hKc := hK.sub (tys' := []) [] rfl
  have hFc := va_free (wc := []) hD hS hA [] rfl
  refine va_callv (va_runS (As := [.int p2, .int (-9), .int 9]) (rest := []) ⟨hx, hb, hml, hown, hts⟩ (c_X6_needRange_in l htr dC dI e0 H.size p2 (-9) 9 hin.2.2) (va_cwS 3 hts gX6_leg_X6_needRange rfl rfl rfl (by decide +kernel) ⟨Nat.le_of_ble_eq_true rfl, Nat.le_of_ble_eq_true rfl⟩) ⟨fun a U g mk q => by obtain ⟨q0, q1, qP, qK, qD⟩ := q; exact ⟨q0, q1, qP, va_K.moved (u := U) (U := U.calling g mk a) (Vm.Alike.refl U.vm) qK, qD⟩, fun U hU hW => ⟨rfl, by rw [hU], by rw [hU]; exact hPc, va_K.moved hW.alike hKc, hDc.weaken (fun _ _ _ _ => trivial)⟩⟩ rfl rfl hl.1 rfl (lv_room (Nat.le_of_ble_eq_true rfl)) dX6_leg_19 ⟨Nat.le_of_ble_eq_true rfl, Nat.le_of_ble_eq_true rfl⟩) hS (fun q _ h => hFc q h) hFc (fun u t H1 locs ht hvm hw hB hz1 hk1 hS => ?_)
  have hP1 : va_P (dC, dI) vwCl [] H1 := fun k q h => by simp at h
  have hD1 : va_D (va_A [] H.size) [] := ⟨fun i j p q h => by simp at h, fun k q h => by simp at h⟩
  obtain ⟨hP, hD⟩ := va_join (wr := [(h0, .inr (11, zC a)), ((a 0), .inl (cL, 10, .inr (.inr (.inr (.inr (fun _ => none))))))]) (w1 := []) hP hD [] [0, 1] rfl rfl (by decide) (by decide) hk1 hFc hP1 hD1
  generalize H1 = H at hP hS ⊢
  have hP : va_P (dC, dI) vwCl [(h0, .inr (11, zC a)), ((a 0), .inl (cL, 10, .inr (.inr (.inr (.inr (fun _ => none))))))] H := hP
  have hD : va_D A [(h0, .inr (11, zC a)), ((a 0), .inl (cL, 10, .inr (.inr (.inr (.inr (fun _ => none))))))] := hD
  refine lv_aload_n hx hb dX6_leg_22 rfl (lv_at hl 0 rfl) ?_
  have hPc := hP.sub (ws' := [(h0, .inr (11, zC a))]) [0] rfl
  have hDc := hD.sub (ws' := [(h0, .inr (11, zC a))]) [0] (by decide) rfl
  have hKc := hK.sub (tys' := []) [] rfl
  have hFc := va_free (wc := [(h0, .inr (11, zC a))]) hD hS hA [0] rfl
  refine va_callv (va_runV (As := []) (rest := []) ⟨hx, hb, hml, hown, hts⟩ (c_X6_needNobodyOnWay l htr dC dI e0 H.size h0 a) (cwV 0 hts gX6_leg_X6_needNobodyOnWay rfl rfl rfl (by decide +kernel) ⟨Nat.le_of_ble_eq_true rfl, Nat.le_of_ble_eq_true rfl⟩) ⟨fun a U g mk q => by obtain ⟨q0, q1, qP, qK, qD⟩ := q; exact ⟨q0, q1, qP, va_K.moved (u := U) (U := U.calling g mk a) (Vm.Alike.refl U.vm) qK, qD⟩, va_recv hKc hPc (ci := 11) (q0 := 0) rfl rfl, fun U hU hW => ⟨rfl, by rw [hU], by rw [hU]; exact hPc, va_K.moved hW.alike hKc, hDc.weaken (fun _ _ _ _ => trivial)⟩⟩ rfl rfl hl.1 rfl (lv_room (Nat.le_of_ble_eq_true rfl)) dX6_leg_23 ⟨Nat.le_of_ble_eq_true rfl, Nat.le_of_ble_eq_true rfl⟩) hS (fun q _ h => hFc q h) hFc (fun u t H1 locs ht hvm hw hB hz1 hk1 hS => ?_)
  obtain ⟨hP1, hK1, hD1⟩ := hB
  rw [ht] at hP1
  obtain ⟨hP, hD⟩ := va_join (wr := [((a 0), .inl (cL, 10, .inr (.inr (.inr (.inr (fun _ => none))))))]) (w1 := [(h0, .inr (11, zC a))]) hP hD [0] [1] rfl rfl (by decide) (by decide) hk1 hFc hP1 hD1
  generalize H1 = H at hP hS ⊢
  have hP : va_P (dC, dI) vwCl [((a 0), .inl (cL, 10, .inr (.inr (.inr (.inr (fun _ => none)))))), (h0, .inr (11, zC a))] H := hP
  have hD : va_D A [((a 0), .inl (cL, 10, .inr (.inr (.inr (.inr (fun _ => none)))))), (h0, .inr (11, zC a))] := hD
  refine lv_aload_n hx hb dX6_leg_26 rfl (lv_at hl 0 rfl) ?_
  refine va_get (D := (dC, dI)) (ci := 11) (v := .int 0) (C := RX6) (T := TX6) (N := 16) hx hb hts (by decide +kernel) hown hK hP 1 rfl rfl 1 (by decide) (hts (.fieldLink RX6 67 "Gangline" "legCount" "I") (by decide +kernel)) (fun _ h9 => h9) rfl dX6_leg_27 ?_
  refine lv_bipush (v := 10) hx hb dX6_leg_30 (by decide) ?_
  have hPc := hP.sub (ws' := []) [] rfl
  have hDc := hD.sub (ws' := []) [] (by decide) rfl
  have hKc := hK.sub (tys' := []) [] rfl
  have hFc := va_free (wc := []) hD hS hA [] rfl
  refine va_callv (va_runS (As := [.int 0, .int 10]) (rest := []) ⟨hx, hb, hml, hown, hts⟩ (c_X6_needRoom l htr dC dI e0 H.size 0 10 (by decide)) (va_cwS 2 hts gX6_leg_X6_needRoom rfl rfl rfl (by decide +kernel) ⟨Nat.le_of_ble_eq_true rfl, Nat.le_of_ble_eq_true rfl⟩) ⟨fun a U g mk q => by obtain ⟨q0, q1, qP, qK, qD⟩ := q; exact ⟨q0, q1, qP, va_K.moved (u := U) (U := U.calling g mk a) (Vm.Alike.refl U.vm) qK, qD⟩, fun U hU hW => ⟨rfl, by rw [hU], by rw [hU]; exact hPc, va_K.moved hW.alike hKc, hDc.weaken (fun _ _ _ _ => trivial)⟩⟩ rfl rfl hl.1 rfl (lv_room (Nat.le_of_ble_eq_true rfl)) dX6_leg_32 ⟨Nat.le_of_ble_eq_true rfl, Nat.le_of_ble_eq_true rfl⟩) hS (fun q _ h => hFc q h) hFc (fun u t H1 locs ht hvm hw hB hz1 hk1 hS => ?_)
  have hP1 : va_P (dC, dI) vwCl [] H1 := fun k q h => by simp at h
  have hD1 : va_D (va_A [] H.size) [] := ⟨fun i j p q h => by simp at h, fun k q h => by simp at h⟩
  obtain ⟨hP, hD⟩ := va_join (wr := [((a 0), .inl (cL, 10, .inr (.inr (.inr (.inr (fun _ => none)))))), (h0, .inr (11, zC a))]) (w1 := []) hP hD [] [0, 1] rfl rfl (by decide) (by decide) hk1 hFc hP1 hD1
  generalize H1 = H at hP hS ⊢
  have hP : va_P (dC, dI) vwCl [((a 0), .inl (cL, 10, .inr (.inr (.inr (.inr (fun _ => none)))))), (h0, .inr (11, zC a))] H := hP
  have hD : va_D A [((a 0), .inl (cL, 10, .inr (.inr (.inr (.inr (fun _ => none)))))), (h0, .inr (11, zC a))] := hD
  refine lv_aload_n hx hb dX6_leg_35 rfl (lv_at hl 0 rfl) ?_
  refine va_get (D := (dC, dI)) (ci := 11) (v := .ref (a 0)) (C := RX6) (T := TX6) (N := 16) hx hb hts (by decide +kernel) hown hK hP 1 rfl rfl 0 (by decide) (hts (.fieldLink RX6 11 "Gangline" "legs" "[LGangline$Leg;") (by decide +kernel)) (fun _ h9 => h9) rfl dX6_leg_36 ?_
  refine lv_aload_n hx hb dX6_leg_39 rfl (lv_at hl 0 rfl) ?_
  refine va_get (D := (dC, dI)) (ci := 11) (v := .int 0) (C := RX6) (T := TX6) (N := 16) hx hb hts (by decide +kernel) hown hK hP 1 rfl rfl 1 (by decide) (hts (.fieldLink RX6 67 "Gangline" "legCount" "I") (by decide +kernel)) (fun _ h9 => h9) rfl dX6_leg_40 ?_
  refine va_new (ci := 6) (fs := [.int 0, .int 0, .int 0, .int 0, .int 0]) (C := RX1) (T := TX1) (N := 5) hx hb hts (by decide +kernel) tyX1 tyX1_ok hown (hts (.classLink RX6 9 RX1) (by decide +kernel)) (hts (.instantiable RX1 5) (by decide +kernel)) (hts (.initialized RX1) (by decide +kernel)) hK hP hD hS hA rfl (fun j hj => by rcases (show j = 0 ∨ j = 1 ∨ j = 2 ∨ j = 3 ∨ j = 4 by omega) with rfl | rfl | rfl | rfl | rfl <;> rfl) (Nat.le_of_ble_eq_true rfl) (Nat.le_of_ble_eq_true rfl) dX6_leg_43 (fun q1 H hP hD hS => ?_)
  have hP : va_P (dC, dI) vwCl [((a 0), .inl (cL, 10, .inr (.inr (.inr (.inr (fun _ => none)))))), (h0, .inr (11, zC a)), (q1, .inr (6, [.int 0, .int 0, .int 0, .int 0, .int 0]))] H := hP
  have hD : va_D A [((a 0), .inl (cL, 10, .inr (.inr (.inr (.inr (fun _ => none)))))), (h0, .inr (11, zC a)), (q1, .inr (6, [.int 0, .int 0, .int 0, .int 0, .int 0]))] := hD
  refine W.widen (k := 1) (n := 5) (by decide) (by decide) ?_
  refine lv_dup hx hb dX6_leg_46 rfl ?_
  refine lv_iload_n hx hb dX6_leg_47 rfl (lv_at hl 1 rfl) ?_
  refine lv_iload_n hx hb dX6_leg_48 rfl (lv_at hl 2 rfl) ?_
  refine lv_iload_n hx hb dX6_leg_49 rfl (lv_at hl 3 rfl) ?_
  have hPc := hP.sub (ws' := [(q1, .inr (6, [.int 0, .int 0, .int 0, .int 0, .int 0]))]) [2] rfl
  have hDc := hD.sub (ws' := [(q1, .inr (6, [.int 0, .int 0, .int 0, .int 0, .int 0]))]) [2] (by decide) rfl
  have hKc := hK.sub (tys' := []) [] rfl
  have hFc := va_free (wc := [(q1, .inr (6, [.int 0, .int 0, .int 0, .int 0, .int 0]))]) hD hS hA [2] rfl
  refine va_callv (va_runI (As := [.int p0, .int p1, .int p2]) (rest := [.ref q1, .int 0, .ref (a 0)]) ⟨hx, hb, hml, hown, hts⟩ (c_X1_init l htr dC dI e0 H.size q1 p0 p1 p2) (cwI 3 hts gX6_leg_X1_init rfl rfl rfl (hts (.initialized RX1) (by decide +kernel)) (hts (.methodLink RX6 75 yX1_init) (by decide +kernel)) (hts (.instanceMethod yX1_init) (by decide +kernel)) rfl (by decide +kernel) ⟨Nat.le_of_ble_eq_true rfl, Nat.le_of_ble_eq_true rfl⟩) ⟨fun a U g mk q => by obtain ⟨q0, q1, qP, qK, qD⟩ := q; exact ⟨q0, q1, qP, va_K.moved (u := U) (U := U.calling g mk a) (Vm.Alike.refl U.vm) qK, qD⟩, fun U hU hW => ⟨rfl, by rw [hU], by rw [hU]; exact hPc, va_K.moved hW.alike hKc, hDc.weaken (fun _ _ _ _ => trivial)⟩⟩ rfl rfl hl.1 rfl (lv_room (Nat.le_of_ble_eq_true rfl)) dX6_leg_50 ⟨Nat.le_of_ble_eq_true rfl, Nat.le_of_ble_eq_true rfl⟩) hS (fun q _ h => hFc q h) hFc (fun u t H1 locs ht hvm hw hB hz1 hk1 hS => ?_)
  obtain ⟨hP1, hK1, hD1⟩ := hB
  rw [ht] at hP1
  obtain ⟨hP, hD⟩ := va_join (wr := [((a 0), .inl (cL, 10, .inr (.inr (.inr (.inr (fun _ => none)))))), (h0, .inr (11, zC a))]) (w1 := [(q1, .inr (6, [.int p0, .int p1, .int p2, .int (-10), .int 0]))]) hP hD [2] [0, 1] rfl rfl (by decide) (by decide) hk1 hFc hP1 hD1
  generalize H1 = H at hP hS ⊢
  have hP : va_P (dC, dI) vwCl [((a 0), .inl (cL, 10, .inr (.inr (.inr (.inr (fun _ => none)))))), (h0, .inr (11, zC a)), (q1, .inr (6, [.int p0, .int p1, .int p2, .int (-10), .int 0]))] H := hP
  have hD : va_D A [((a 0), .inl (cL, 10, .inr (.inr (.inr (.inr (fun _ => none)))))), (h0, .inr (11, zC a)), (q1, .inr (6, [.int p0, .int p1, .int p2, .int (-10), .int 0]))] := hD
  refine va_astq hx hb hK hP hD hS 0 0 2 6 rfl rfl rfl rfl (by unfold vp_in; decide) dX6_leg_53 (fun H locs hP hD hS => ?_)
  have hP : va_P (dC, dI) vwCl [((a 0), .inl (cL, 10, .inr (.inr (.inr (.inr (va_up (fun _ => none) (0 : Int32).toNatClampNeg (some q1))))))), (h0, .inr (11, zC a)), (q1, .inr (6, [.int p0, .int p1, .int p2, .int (-10), .int 0]))] H := hP
  have hD : va_D A [((a 0), .inl (cL, 10, .inr (.inr (.inr (.inr (va_up (fun _ => none) (0 : Int32).toNatClampNeg (some q1))))))), (h0, .inr (11, zC a)), (q1, .inr (6, [.int p0, .int p1, .int p2, .int (-10), .int 0]))] := hD
  refine lv_aload_n hx hb dX6_leg_54 rfl (lv_at hl 0 rfl) ?_
  refine lv_dup hx hb dX6_leg_55 rfl ?_
  refine va_get (D := (dC, dI)) (ci := 11) (v := .int 0) (C := RX6) (T := TX6) (N := 16) hx hb hts (by decide +kernel) hown hK hP 1 rfl rfl 1 (by decide) (hts (.fieldLink RX6 67 "Gangline" "legCount" "I") (by decide +kernel)) (fun _ h9 => h9) rfl dX6_leg_56 ?_
  refine lv_iconst (v := 1) hx hb dX6_leg_59 (by decide) ?_
  refine lv_iadd hx hb dX6_leg_60 ?_
  refine lv_topi (fun y2 e3 => ?_)
  obtain rfl : y2 = 1 := e3.trans (by decide)
  refine va_put (D := (dC, dI)) (ci := 11) (v := .int 1) (ty := .int) (C := RX6) (T := TX6) (N := 16) hx hb hts (by decide +kernel) tyX6 tyX6_ok nmX6 hown hK hP hD hS 1 rfl rfl 1 (by decide) (hts (.fieldLink RX6 67 "Gangline" "legCount" "I") (by decide +kernel)) (fun _ h9 => h9) rfl (by decide +kernel) rfl rfl (Nat.le_of_ble_eq_true rfl) dX6_leg_61 (fun H locs hP hD hS => ?_)
  have hP : va_P (dC, dI) vwCl [((a 0), .inl (cL, 10, .inr (.inr (.inr (.inr (va_up (fun _ => none) (0 : Int32).toNatClampNeg (some q1))))))), (h0, .inr (11, [.ref (a 0), .int 1, .ref (a 1), .int 0, .ref (a 2), .int 0, .ref (a 3), .int 0, .long 0, .int 0, .int 0, .ref (a 4), .ref (a 5), .ref (a 6), .ref (a 7), .int 0])), (q1, .inr (6, [.int p0, .int p1, .int p2, .int (-10), .int 0]))] H := hP
  have hD : va_D A [((a 0), .inl (cL, 10, .inr (.inr (.inr (.inr (va_up (fun _ => none) (0 : Int32).toNatClampNeg (some q1))))))), (h0, .inr (11, [.ref (a 0), .int 1, .ref (a 1), .int 0, .ref (a 2), .int 0, .ref (a 3), .int 0, .long 0, .int 0, .int 0, .ref (a 4), .ref (a 5), .ref (a 6), .ref (a 7), .int 0])), (q1, .inr (6, [.int p0, .int p1, .int p2, .int (-10), .int 0]))] := hD
  refine lv_aload_n hx hb dX6_leg_64 rfl (lv_at hl 0 rfl) ?_
  refine va_get (D := (dC, dI)) (ci := 11) (v := .int 1) (C := RX6) (T := TX6) (N := 16) hx hb hts (by decide +kernel) hown hK hP 1 rfl rfl 1 (by decide) (hts (.fieldLink RX6 67 "Gangline" "legCount" "I") (by decide +kernel)) (fun _ h9 => h9) rfl dX6_leg_65 ?_
  refine lv_iconst (v := 1) hx hb dX6_leg_68 (by decide) ?_
  refine lv_isub hx hb dX6_leg_69 ?_
  refine lv_topi (fun y4 e5 => ?_)
  obtain rfl : y4 = 0 := e5.trans (by decide)
  exact W.iret (v := 0) hx hb hr (fun t ht hW => ⟨⟨0, (), rfl, rfl, trivial⟩, hS.F ht⟩) hS.2.2 dX6_leg_70

set_option maxHeartbeats 4000000 in
set_option maxRecDepth 100000 in
theorem c_X6_leg_no (l : Launch) (htr : l.stackTraces = false) (dC : Nat → ClassId) (dI : Nat → Nat → Nat) (e0 sz : Nat) (h0 : Nat) (a : Nat → Nat) (p0 : Int32) (p1 : Int32) (p2 : Int32) (hnot : ¬ ((5 ≤ p0 ∧ p0 ≤ 120) ∧ (0 ≤ p1 ∧ p1 ≤ 9) ∧ ((-9) ≤ p2 ∧ p2 ≤ 9))) : vx_Met l yX6_leg wsX6_leg ({ frames := 7, cells := 1, slots := 6, locals := 112 }) (va_Pc [.ref h0, .int p0, .int p1, .int p2] (fun U => U.heap.size = sz ∧ va_P (dC, dI) vwCl [(h0, .inr (11, zC a))] U.heap ∧ va_K (dC, dI) vwCl [] U ∧ va_D (fun _ => True) [(h0, .inr (11, zC a))] ∧ zE e0 (va_A [(h0, .inr (11, zC a))] sz) U U.heap)) (va_Qi (fun (r : Int32) (_ : Unit) => False) (fun _ t => True) (va_A [(h0, .inr (11, zC a))] sz)) (zX zG (va_A [(h0, .inr (11, zC a))] sz)) 1 6 (va_A [(h0, .inr (11, zC a))] sz) := by
  refine vx_ofW (cc := cX6_leg) (maxL := 4) (ret := (some .int)) (by decide) rfl ?_
  intro p e s m args below meth c s₁ B hml hxt hv
  obtain ⟨rfl, hsz, hP, hK, hD0, hE⟩ := hv
  have hx := B.exec
  have hb := B.bytes
  have hr := B.returns
  have hts := atoms_spec (ws := wsX6_leg) B.pre
  have hown : s.vm.findClass RX6 = some m.cls := findClass_of_methodNamed B.named
  have hlocks := B.notSynchronized
  subst hsz
  have hD := hD0.self (sz := s.heap.size)
  generalize hAe : va_A [(h0, .inr (11, zC a))] s.heap.size = A at hD hE ⊢
  have hA : ∀ q : Nat, s.heap.size ≤ q → A q := fun q h => by rw [← hAe]; exact Or.inr h
  have hS : va_S A s.heap s.heap [] := va_S.rf
  have hl := lv_entry ([.ref h0, .int p0, .int p1, .int p2]) (n := 4) (Nat.le_of_ble_eq_true rfl)
  rw [lg_entry_eq]
  generalize (lg_sl ([.ref h0, .int p0, .int p1, .int p2]) ++ List.replicate (4 - (lg_sl ([.ref h0, .int p0, .int p1, .int p2])).length) Slot.unset).toArray = ls at hl ⊢
  have hl : lv_has ls 4 [(0, .ref h0), (1, .int p0), (2, .int p1), (3, .int p2)] := hl
  refine lv_iload_n hx hb dX6_leg_0 rfl (lv_at hl 1 rfl) ?_
  refine lv_iconst (v := 5) hx hb dX6_leg_1 (by decide) ?_
  refine lv_bipush (v := 120) hx hb dX6_leg_2 (by decide) ?_
  by_cases g1 : (5 ≤ p0 ∧ p0 ≤ 120)
  · have hPc := hP.sub (ws' := []) [] rfl
    have hDc := hD.sub (ws' := []) [] (by decide) rfl
    have hKc := hK.sub (tys' := []) [] rfl
    have hFc := va_free (wc := []) hD hS hA [] rfl
    refine va_callv (va_runS (As := [.int p0, .int 5, .int 120]) (rest := []) ⟨hx, hb, hml, hown, hts⟩ (c_X6_needRange_in l htr dC dI e0 s.heap.size p0 5 120 g1) (va_cwS 3 hts gX6_leg_X6_needRange rfl rfl rfl (by decide +kernel) ⟨Nat.le_of_ble_eq_true rfl, Nat.le_of_ble_eq_true rfl⟩) ⟨fun a U g mk q => by obtain ⟨q0, q1, qP, qK, qD⟩ := q; exact ⟨q0, q1, qP, va_K.moved (u := U) (U := U.calling g mk a) (Vm.Alike.refl U.vm) qK, qD⟩, fun U hU hW => ⟨rfl, by rw [hU], by rw [hU]; exact hPc, va_K.moved hW.alike hKc, hDc.weaken (fun _ _ _ _ => trivial)⟩⟩ rfl rfl hl.1 rfl (lv_room (Nat.le_of_ble_eq_true rfl)) dX6_leg_4 ⟨Nat.le_of_ble_eq_true rfl, Nat.le_of_ble_eq_true rfl⟩) hS (fun q _ h => hFc q h) hFc (fun u t H1 locs ht hvm hw hB hz1 hk1 hS => ?_)
    have hP1 : va_P (dC, dI) vwCl [] H1 := fun k q h => by simp at h
    have hD1 : va_D (va_A [] s.heap.size) [] := ⟨fun i j p q h => by simp at h, fun k q h => by simp at h⟩
    obtain ⟨hP, hD⟩ := va_join (wr := [(h0, .inr (11, zC a))]) (w1 := []) hP hD [] [0] rfl rfl (by decide) (by decide) hk1 hFc hP1 hD1
    generalize H1 = H at hP hS ⊢
    have hP : va_P (dC, dI) vwCl [(h0, .inr (11, zC a))] H := hP
    have hD : va_D A [(h0, .inr (11, zC a))] := hD
    refine lv_iload_n hx hb dX6_leg_7 rfl (lv_at hl 2 rfl) ?_
    refine lv_iconst (v := 0) hx hb dX6_leg_8 (by decide) ?_
    refine lv_bipush (v := 9) hx hb dX6_leg_9 (by decide) ?_
    by_cases g2 : (0 ≤ p1 ∧ p1 ≤ 9)
    · have hPc := hP.sub (ws' := []) [] rfl
      have hDc := hD.sub (ws' := []) [] (by decide) rfl
      have hKc := hK.sub (tys' := []) [] rfl
      have hFc := va_free (wc := []) hD hS hA [] rfl
      refine va_callv (va_runS (As := [.int p1, .int 0, .int 9]) (rest := []) ⟨hx, hb, hml, hown, hts⟩ (c_X6_needRange_in l htr dC dI e0 H.size p1 0 9 g2) (va_cwS 3 hts gX6_leg_X6_needRange rfl rfl rfl (by decide +kernel) ⟨Nat.le_of_ble_eq_true rfl, Nat.le_of_ble_eq_true rfl⟩) ⟨fun a U g mk q => by obtain ⟨q0, q1, qP, qK, qD⟩ := q; exact ⟨q0, q1, qP, va_K.moved (u := U) (U := U.calling g mk a) (Vm.Alike.refl U.vm) qK, qD⟩, fun U hU hW => ⟨rfl, by rw [hU], by rw [hU]; exact hPc, va_K.moved hW.alike hKc, hDc.weaken (fun _ _ _ _ => trivial)⟩⟩ rfl rfl hl.1 rfl (lv_room (Nat.le_of_ble_eq_true rfl)) dX6_leg_11 ⟨Nat.le_of_ble_eq_true rfl, Nat.le_of_ble_eq_true rfl⟩) hS (fun q _ h => hFc q h) hFc (fun u t H1 locs ht hvm hw hB hz1 hk1 hS => ?_)
      have hP1 : va_P (dC, dI) vwCl [] H1 := fun k q h => by simp at h
      have hD1 : va_D (va_A [] H.size) [] := ⟨fun i j p q h => by simp at h, fun k q h => by simp at h⟩
      obtain ⟨hP, hD⟩ := va_join (wr := [(h0, .inr (11, zC a))]) (w1 := []) hP hD [] [0] rfl rfl (by decide) (by decide) hk1 hFc hP1 hD1
      generalize H1 = H at hP hS ⊢
      have hP : va_P (dC, dI) vwCl [(h0, .inr (11, zC a))] H := hP
      have hD : va_D A [(h0, .inr (11, zC a))] := hD
      refine lv_iload_n hx hb dX6_leg_14 rfl (lv_at hl 3 rfl) ?_
      refine lv_bipush (v := (-9)) hx hb dX6_leg_15 (by decide) ?_
      refine lv_bipush (v := 9) hx hb dX6_leg_17 (by decide) ?_
      by_cases g3 : ((-9) ≤ p2 ∧ p2 ≤ 9)
      · have hPc := hP.sub (ws' := []) [] rfl
        have hDc := hD.sub (ws' := []) [] (by decide) rfl
        have hKc := hK.sub (tys' := []) [] rfl
        have hFc := va_free (wc := []) hD hS hA [] rfl
        refine va_callv (va_runS (As := [.int p2, .int (-9), .int 9]) (rest := []) ⟨hx, hb, hml, hown, hts⟩ (c_X6_needRange_in l htr dC dI e0 H.size p2 (-9) 9 g3) (va_cwS 3 hts gX6_leg_X6_needRange rfl rfl rfl (by decide +kernel) ⟨Nat.le_of_ble_eq_true rfl, Nat.le_of_ble_eq_true rfl⟩) ⟨fun a U g mk q => by obtain ⟨q0, q1, qP, qK, qD⟩ := q; exact ⟨q0, q1, qP, va_K.moved (u := U) (U := U.calling g mk a) (Vm.Alike.refl U.vm) qK, qD⟩, fun U hU hW => ⟨rfl, by rw [hU], by rw [hU]; exact hPc, va_K.moved hW.alike hKc, hDc.weaken (fun _ _ _ _ => trivial)⟩⟩ rfl rfl hl.1 rfl (lv_room (Nat.le_of_ble_eq_true rfl)) dX6_leg_19 ⟨Nat.le_of_ble_eq_true rfl, Nat.le_of_ble_eq_true rfl⟩) hS (fun q _ h => hFc q h) hFc (fun u t H1 locs ht hvm hw hB hz1 hk1 hS => ?_)
        have hP1 : va_P (dC, dI) vwCl [] H1 := fun k q h => by simp at h
        have hD1 : va_D (va_A [] H.size) [] := ⟨fun i j p q h => by simp at h, fun k q h => by simp at h⟩
        obtain ⟨hP, hD⟩ := va_join (wr := [(h0, .inr (11, zC a))]) (w1 := []) hP hD [] [0] rfl rfl (by decide) (by decide) hk1 hFc hP1 hD1
        generalize H1 = H at hP hS ⊢
        have hP : va_P (dC, dI) vwCl [(h0, .inr (11, zC a))] H := hP
        have hD : va_D A [(h0, .inr (11, zC a))] := hD
        exact absurd ⟨g1, g2, g3⟩ hnot
      · have hPc := hP.sub (ws' := []) [] rfl
        have hDc := hD.sub (ws' := []) [] (by decide) rfl
        have hKc := hK.sub (tys' := []) [] rfl
        have hFc := va_free (wc := []) hD hS hA [] rfl
        have hEc := (hE.kept hS.2.1).narrow hFc
        refine vx_callv (vx_runS (As := [.int p2, .int (-9), .int 9]) (rest := []) ⟨hx, hb, hml, hown, hts⟩ (c_X6_needRange_no l htr dC dI e0 H.size p2 (-9) 9 g3) (va_cwS 3 hts gX6_leg_X6_needRange rfl rfl rfl (by decide +kernel) ⟨Nat.le_of_ble_eq_true rfl, Nat.le_of_ble_eq_true rfl⟩) ⟨fun a U g mk q => by obtain ⟨q0, q1, qP, qK, qD, qE⟩ := q; exact ⟨q0, q1, qP, va_K.moved (u := U) (U := U.calling g mk a) (Vm.Alike.refl U.vm) qK, qD, zE.same rfl qE⟩, fun U hU hW => ⟨rfl, by rw [hU], by rw [hU]; exact hPc, va_K.moved hW.alike hKc, hDc.weaken (fun _ _ _ _ => trivial), by rw [hU]; exact zE.warm hW hEc⟩⟩ rfl rfl hl.1 rfl (lv_room (Nat.le_of_ble_eq_true rfl)) dX6_leg_19 ⟨Nat.le_of_ble_eq_true rfl, Nat.le_of_ble_eq_true rfl⟩) hS (fun q _ h => hFc q h) hFc (fun q _ h => hFc q h) (fun E ce q9 u t H1 locs1 ht hvm hpx hBX hz1 hk1 hS hce hcv hcl => ?_) (fun u t H1 locs1 ht hvm hw hB hz1 hk1 hS => absurd hw id)
        exact vx_out (fun x hx9 => absurd (hxt x hx9) id) hlocks hce hcv hcl (fun t9 h1 h2 => ⟨(), trivial, hBX, hS.F h1⟩) hS.2.2 (Nat.le_of_ble_eq_true rfl) (Nat.le_of_ble_eq_true rfl)
    · have hPc := hP.sub (ws' := []) [] rfl
      have hDc := hD.sub (ws' := []) [] (by decide) rfl
      have hKc := hK.sub (tys' := []) [] rfl
      have hFc := va_free (wc := []) hD hS hA [] rfl
      have hEc := (hE.kept hS.2.1).narrow hFc
      refine vx_callv (vx_runS (As := [.int p1, .int 0, .int 9]) (rest := []) ⟨hx, hb, hml, hown, hts⟩ (c_X6_needRange_no l htr dC dI e0 H.size p1 0 9 g2) (va_cwS 3 hts gX6_leg_X6_needRange rfl rfl rfl (by decide +kernel) ⟨Nat.le_of_ble_eq_true rfl, Nat.le_of_ble_eq_true rfl⟩) ⟨fun a U g mk q => by obtain ⟨q0, q1, qP, qK, qD, qE⟩ := q; exact ⟨q0, q1, qP, va_K.moved (u := U) (U := U.calling g mk a) (Vm.Alike.refl U.vm) qK, qD, zE.same rfl qE⟩, fun U hU hW => ⟨rfl, by rw [hU], by rw [hU]; exact hPc, va_K.moved hW.alike hKc, hDc.weaken (fun _ _ _ _ => trivial), by rw [hU]; exact zE.warm hW hEc⟩⟩ rfl rfl hl.1 rfl (lv_room (Nat.le_of_ble_eq_true rfl)) dX6_leg_11 ⟨Nat.le_of_ble_eq_true rfl, Nat.le_of_ble_eq_true rfl⟩) hS (fun q _ h => hFc q h) hFc (fun q _ h => hFc q h) (fun E ce q9 u t H1 locs1 ht hvm hpx hBX hz1 hk1 hS hce hcv hcl => ?_) (fun u t H1 locs1 ht hvm hw hB hz1 hk1 hS => absurd hw id)
      exact vx_out (fun x hx9 => absurd (hxt x hx9) id) hlocks hce hcv hcl (fun t9 h1 h2 => ⟨(), trivial, hBX, hS.F h1⟩) hS.2.2 (Nat.le_of_ble_eq_true rfl) (Nat.le_of_ble_eq_true rfl)
  · have hPc := hP.sub (ws' := []) [] rfl
    have hDc := hD.sub (ws' := []) [] (by decide) rfl
    have hKc := hK.sub (tys' := []) [] rfl
    have hFc := va_free (wc := []) hD hS hA [] rfl
    have hEc := (hE.kept hS.2.1).narrow hFc
    refine vx_callv (vx_runS (As := [.int p0, .int 5, .int 120]) (rest := []) ⟨hx, hb, hml, hown, hts⟩ (c_X6_needRange_no l htr dC dI e0 s.heap.size p0 5 120 g1) (va_cwS 3 hts gX6_leg_X6_needRange rfl rfl rfl (by decide +kernel) ⟨Nat.le_of_ble_eq_true rfl, Nat.le_of_ble_eq_true rfl⟩) ⟨fun a U g mk q => by obtain ⟨q0, q1, qP, qK, qD, qE⟩ := q; exact ⟨q0, q1, qP, va_K.moved (u := U) (U := U.calling g mk a) (Vm.Alike.refl U.vm) qK, qD, zE.same rfl qE⟩, fun U hU hW => ⟨rfl, by rw [hU], by rw [hU]; exact hPc, va_K.moved hW.alike hKc, hDc.weaken (fun _ _ _ _ => trivial), by rw [hU]; exact zE.warm hW hEc⟩⟩ rfl rfl hl.1 rfl (lv_room (Nat.le_of_ble_eq_true rfl)) dX6_leg_4 ⟨Nat.le_of_ble_eq_true rfl, Nat.le_of_ble_eq_true rfl⟩) hS (fun q _ h => hFc q h) hFc (fun q _ h => hFc q h) (fun E ce q9 u t H1 locs1 ht hvm hpx hBX hz1 hk1 hS hce hcv hcl => ?_) (fun u t H1 locs1 ht hvm hw hB hz1 hk1 hS => absurd hw id)
    exact vx_out (fun x hx9 => absurd (hxt x hx9) id) hlocks hce hcv hcl (fun t9 h1 h2 => ⟨(), trivial, hBX, hS.F h1⟩) hS.2.2 (Nat.le_of_ble_eq_true rfl) (Nat.le_of_ble_eq_true rfl)

set_option maxRecDepth 20000 in
theorem ggX6_team_X5_init : GoodIn wsX6_team wsX5_init := goodIn_ca (goodIn_r _ [13, 14, 15, 16, 17, 18, 19, 20, 21, 22, 23, 24, 25, 26, 27, 28, 29, 30, 31, 32, 33, 34, 35, 36, 37, 38, 39, 40, 41, 42, 43, 44, 45, 46, 47, 48, 49, 50, 51, 52, 53, 54, 55, 56, 57, 58, 80, 81, 82, 83, 84, 85, 86, 87, 88, 89, 90, 91, 92, 93, 94, 95, 96, 75, 76, 77, 78, 79, 97, 98, 99] (by decide +kernel) (by decide +kernel)) (goodIn_sub (fun _ h => List.mem_cons_of_mem _ (List.mem_append_right _ h)) (by decide +kernel))
set_option maxRecDepth 20000 in
theorem gX6_team_X5_init_n98 : GoodIn wsX6_team (wsX5_init) := ggX6_team_X5_init
set_option maxRecDepth 20000 in
theorem ggX6_team_X6_needRoom : GoodIn wsX6_team wsX6_needRoom := goodIn_ca (goodIn_r _ [9, 10, 11] (by decide +kernel) (by decide +kernel)) (goodIn_sub (fun _ h => List.mem_cons_of_mem _ (List.mem_append_left _ (List.mem_append_right _ h))) (by decide +kernel))
set_option maxRecDepth 20000 in
theorem gX6_team_X6_needRoom : GoodIn wsX6_team (va_wsS RX6 71 yX6_needRoom wsX6_needRoom) := goodIn_app (goodIn_of _ (by decide +kernel)) ggX6_team_X6_needRoom
theorem dX6_team_0 : decode cX6_team 0 = .ok (.aload_n 0, 1) := by decide +kernel
theorem dX6_team_1 : decode cX6_team 1 = .ok (.getfield 95, 3) := by decide +kernel
theorem dX6_team_4 : decode cX6_team 4 = .ok (.bipush 6, 2) := by decide +kernel
theorem dX6_team_6 : decode cX6_team 6 = .ok (.invokestatic 71, 3) := by decide +kernel
theorem dX6_team_9 : decode cX6_team 9 = .ok (.aload_n 0, 1) := by decide +kernel
theorem dX6_team_10 : decode cX6_team 10 = .ok (.getfield 29, 3) := by decide +kernel
theorem dX6_team_13 : decode cX6_team 13 = .ok (.aload_n 0, 1) := by decide +kernel
theorem dX6_team_14 : decode cX6_team 14 = .ok (.getfield 95, 3) := by decide +kernel
theorem dX6_team_17 : decode cX6_team 17 = .ok (.new 27, 3) := by decide +kernel
theorem dX6_team_20 : decode cX6_team 20 = .ok (.dup, 1) := by decide +kernel
theorem dX6_team_21 : decode cX6_team 21 = .ok (.invokespecial 98, 3) := by decide +kernel
theorem dX6_team_24 : decode cX6_team 24 = .ok (.aastore, 1) := by decide +kernel
theorem dX6_team_25 : decode cX6_team 25 = .ok (.aload_n 0, 1) := by decide +kernel
theorem dX6_team_26 : decode cX6_team 26 = .ok (.dup, 1) := by decide +kernel
theorem dX6_team_27 : decode cX6_team 27 = .ok (.getfield 95, 3) := by decide +kernel
theorem dX6_team_30 : decode cX6_team 30 = .ok (.iconst 1, 1) := by decide +kernel
theorem dX6_team_31 : decode cX6_team 31 = .ok (.iadd, 1) := by decide +kernel
theorem dX6_team_32 : decode cX6_team 32 = .ok (.putfield 95, 3) := by decide +kernel
theorem dX6_team_35 : decode cX6_team 35 = .ok (.aload_n 0, 1) := by decide +kernel
theorem dX6_team_36 : decode cX6_team 36 = .ok (.getfield 95, 3) := by decide +kernel
theorem dX6_team_39 : decode cX6_team 39 = .ok (.iconst 1, 1) := by decide +kernel
theorem dX6_team_40 : decode cX6_team 40 = .ok (.isub, 1) := by decide +kernel
theorem dX6_team_41 : decode cX6_team 41 = .ok (.ireturn, 1) := by decide +kernel
set_option maxHeartbeats 4000000 in
set_option maxRecDepth 100000 in
theorem c_X6_team (l : Launch) (htr : l.stackTraces = false) (dC : Nat → ClassId) (dI : Nat → Nat → Nat) (e0 sz : Nat) (h0 : Nat) (a : Nat → Nat) (cT : ClassId) : Met l yX6_team wsX6_team ({ frames := 3, cells := 7, slots := 73, locals := 61 }) (va_Pc [.ref h0] (fun U => U.heap.size = sz ∧ va_P (dC, dI) vwCl [(h0, .inr (11, zC a)), ((a 3), .inl (cT, 6, .inr (.inr (.inr (.inr (fun _ => none))))))] U.heap ∧ va_K (dC, dI) vwCl [(cT, (.object RX5))] U ∧ va_D (fun _ => True) [(h0, .inr (11, zC a)), ((a 3), .inl (cT, 6, .inr (.inr (.inr (.inr (fun _ => none))))))] ∧ zE e0 (va_A [(h0, .inr (11, zC a)), ((a 3), .inl (cT, 6, .inr (.inr (.inr (.inr (fun _ => none))))))] sz) U U.heap)) (va_Qi (fun (r : Int32) (_ : Unit) => r = 0) (fun _ t => True) (va_A [(h0, .inr (11, zC a)), ((a 3), .inl (cT, 6, .inr (.inr (.inr (.inr (fun _ => none))))))] sz)) 7 73 (va_A [(h0, .inr (11, zC a)), ((a 3), .inl (cT, 6, .inr (.inr (.inr (.inr (fun _ => none))))))] sz) := by
  refine Met.ofW (cc := cX6_team) (maxL := 1) (ret := (some .int)) (by decide) rfl ?_
  intro p e s m args below meth c s₁ B hml hv
  obtain ⟨rfl, hsz, hP, hK, hD0, hE⟩ := hv
  have hx := B.exec
  have hb := B.bytes
  have hr := B.returns
  have hts := atoms_spec (ws := wsX6_team) B.pre
  have hown : s.vm.findClass RX6 = some m.cls := findClass_of_methodNamed B.named
  have hlocks := B.notSynchronized
  subst hsz
  have hD := hD0.self (sz := s.heap.size)
  generalize hAe : va_A [(h0, .inr (11, zC a)), ((a 3), .inl (cT, 6, .inr (.inr (.inr (.inr (fun _ => none))))))] s.heap.size = A at hD hE ⊢
  have hA : ∀ q : Nat, s.heap.size ≤ q → A q := fun q h => by rw [← hAe]; exact Or.inr h
  have hS : va_S A s.heap s.heap [] := va_S.rf
  have hl := lv_entry ([.ref h0]) (n := 1) (Nat.le_of_ble_eq_true rfl)
  rw [lg_entry_eq]
  generalize (lg_sl ([.ref h0]) ++ List.replicate (1 - (lg_sl ([.ref h0])).length) Slot.unset).toArray = ls at hl ⊢
  have hl : lv_has ls 1 [(0, .ref h0)] := hl
  refine lv_aload_n hx hb dX6_team_0 rfl (lv_at hl 0 rfl) ?_
  refine va_get (D := (dC, dI)) (ci := 11) (v := .int 0) (C := RX6) (T := TX6) (N := 16) hx hb hts (by decide +kernel) hown hK hP 0 rfl rfl 7 (by decide) (hts (.fieldLink RX6 95 "Gangline" "teamCount" "I") (by decide +kernel)) (fun _ h9 => h9) rfl dX6_team_1 ?_
  refine lv_bipush (v := 6) hx hb dX6_team_4 (by decide) ?_
  have hPc := hP.sub (ws' := []) [] rfl
  have hDc := hD.sub (ws' := []) [] (by decide) rfl
  have hKc := hK.sub (tys' := []) [] rfl
  have hFc := va_free (wc := []) hD hS hA [] rfl
  refine va_callv (va_runS (As := [.int 0, .int 6]) (rest := []) ⟨hx, hb, hml, hown, hts⟩ (c_X6_needRoom l htr dC dI e0 s.heap.size 0 6 (by decide)) (va_cwS 2 hts gX6_team_X6_needRoom rfl rfl rfl (by decide +kernel) ⟨Nat.le_of_ble_eq_true rfl, Nat.le_of_ble_eq_true rfl⟩) ⟨fun a U g mk q => by obtain ⟨q0, q1, qP, qK, qD⟩ := q; exact ⟨q0, q1, qP, va_K.moved (u := U) (U := U.calling g mk a) (Vm.Alike.refl U.vm) qK, qD⟩, fun U hU hW => ⟨rfl, by rw [hU], by rw [hU]; exact hPc, va_K.moved hW.alike hKc, hDc.weaken (fun _ _ _ _ => trivial)⟩⟩ rfl rfl hl.1 rfl (lv_room (Nat.le_of_ble_eq_true rfl)) dX6_team_6 ⟨Nat.le_of_ble_eq_true rfl, Nat.le_of_ble_eq_true rfl⟩) hS (fun q _ h => hFc q h) hFc (fun u t H1 locs ht hvm hw hB hz1 hk1 hS => ?_)
  have hP1 : va_P (dC, dI) vwCl [] H1 := fun k q h => by simp at h
  have hD1 : va_D (va_A [] s.heap.size) [] := ⟨fun i j p q h => by simp at h, fun k q h => by simp at h⟩
  obtain ⟨hP, hD⟩ := va_join (wr := [(h0, .inr (11, zC a)), ((a 3), .inl (cT, 6, .inr (.inr (.inr (.inr (fun _ => none))))))]) (w1 := []) hP hD [] [0, 1] rfl rfl (by decide) (by decide) hk1 hFc hP1 hD1
  generalize H1 = H at hP hS ⊢
  have hP : va_P (dC, dI) vwCl [(h0, .inr (11, zC a)), ((a 3), .inl (cT, 6, .inr (.inr (.inr (.inr (fun _ => none))))))] H := hP
  have hD : va_D A [(h0, .inr (11, zC a)), ((a 3), .inl (cT, 6, .inr (.inr (.inr (.inr (fun _ => none))))))] := hD
  refine lv_aload_n hx hb dX6_team_9 rfl (lv_at hl 0 rfl) ?_
  refine va_get (D := (dC, dI)) (ci := 11) (v := .ref (a 3)) (C := RX6) (T := TX6) (N := 16) hx hb hts (by decide +kernel) hown hK hP 0 rfl rfl 6 (by decide) (hts (.fieldLink RX6 29 "Gangline" "teams" "[LGangline$Team;") (by decide +kernel)) (fun _ h9 => h9) rfl dX6_team_10 ?_
  refine lv_aload_n hx hb dX6_team_13 rfl (lv_at hl 0 rfl) ?_
  refine va_get (D := (dC, dI)) (ci := 11) (v := .int 0) (C := RX6) (T := TX6) (N := 16) hx hb hts (by decide +kernel) hown hK hP 0 rfl rfl 7 (by decide) (hts (.fieldLink RX6 95 "Gangline" "teamCount" "I") (by decide +kernel)) (fun _ h9 => h9) rfl dX6_team_14 ?_
  refine va_new (ci := 10) (fs := [.null, .null, .int 0, .int 0, .int 0]) (C := RX5) (T := TX5) (N := 5) hx hb hts (by decide +kernel) tyX5 tyX5_ok hown (hts (.classLink RX6 27 RX5) (by decide +kernel)) (hts (.instantiable RX5 5) (by decide +kernel)) (hts (.initialized RX5) (by decide +kernel)) hK hP hD hS hA rfl (fun j hj => by rcases (show j = 0 ∨ j = 1 ∨ j = 2 ∨ j = 3 ∨ j = 4 by omega) with rfl | rfl | rfl | rfl | rfl <;> rfl) (Nat.le_of_ble_eq_true rfl) (Nat.le_of_ble_eq_true rfl) dX6_team_17 (fun q1 H hP hD hS => ?_)
  have hP : va_P (dC, dI) vwCl [(h0, .inr (11, zC a)), ((a 3), .inl (cT, 6, .inr (.inr (.inr (.inr (fun _ => none)))))), (q1, .inr (10, [.null, .null, .int 0, .int 0, .int 0]))] H := hP
  have hD : va_D A [(h0, .inr (11, zC a)), ((a 3), .inl (cT, 6, .inr (.inr (.inr (.inr (fun _ => none)))))), (q1, .inr (10, [.null, .null, .int 0, .int 0, .int 0]))] := hD
  refine W.widen (k := 1) (n := 5) (by decide) (by decide) ?_
  refine lv_dup hx hb dX6_team_20 rfl ?_
  have hPc := hP.sub (ws' := [(q1, .inr (10, [.null, .null, .int 0, .int 0, .int 0]))]) [2] rfl
  have hDc := hD.sub (ws' := [(q1, .inr (10, [.null, .null, .int 0, .int 0, .int 0]))]) [2] (by decide) rfl
  have hKc := hK.sub (tys' := []) [] rfl
  have hFc := va_free (wc := [(q1, .inr (10, [.null, .null, .int 0, .int 0, .int 0]))]) hD hS hA [2] rfl
  have hEc := (hE.kept hS.2.1).narrow hFc
  refine va_callv (va_runIN (As := []) (rest := [.ref q1, .int 0, .ref (a 3)]) ⟨hx, hb, hml, hown, hts⟩ (c_X5_init l htr dC dI e0 H.size q1) ⟨va_cnB 0 hts gX6_team_X5_init_n98 rfl rfl rfl (zV_M98_Gangline hE.v) (hts (.initialized RX5) (by decide +kernel)) (by decide +kernel) ⟨Nat.le_of_ble_eq_true rfl, Nat.le_of_ble_eq_true rfl⟩, rfl, hts (.instanceMethod yX5_init) (by decide +kernel)⟩ ⟨fun a U g mk q => by obtain ⟨q0, q1, qP, qK, qD, qE⟩ := q; exact ⟨q0, q1, qP, va_K.moved (u := U) (U := U.calling g mk a) (Vm.Alike.refl U.vm) qK, qD, zE.same rfl qE⟩, fun U hU hW => ⟨rfl, by rw [hU], by rw [hU]; exact hPc, va_K.moved hW.alike hKc, hDc.weaken (fun _ _ _ _ => trivial), by rw [hU]; exact zE.warm hW hEc⟩⟩ rfl rfl hl.1 rfl (lv_room (Nat.le_of_ble_eq_true rfl)) dX6_team_21 ⟨Nat.le_of_ble_eq_true rfl, Nat.le_of_ble_eq_true rfl⟩) hS (fun q _ h => hFc q h) hFc (fun u t H1 locs ht hvm hw hB hz1 hk1 hS => ?_)
  obtain ⟨q2, q3, hP1, hK1, hD1⟩ := hB
  rw [ht] at hP1
  obtain ⟨hP, hD⟩ := va_join (wr := [(h0, .inr (11, zC a)), ((a 3), .inl (cT, 6, .inr (.inr (.inr (.inr (fun _ => none))))))]) (w1 := [(q1, .inr (10, [.ref q2, .ref q3, .int 0, .int 0, .int 45]))]) hP hD [2] [0, 1] rfl rfl (by decide) (by decide) hk1 hFc hP1 hD1
  generalize H1 = H at hP hS ⊢
  have hP : va_P (dC, dI) vwCl [(h0, .inr (11, zC a)), ((a 3), .inl (cT, 6, .inr (.inr (.inr (.inr (fun _ => none)))))), (q1, .inr (10, [.ref q2, .ref q3, .int 0, .int 0, .int 45]))] H := hP
  have hD : va_D A [(h0, .inr (11, zC a)), ((a 3), .inl (cT, 6, .inr (.inr (.inr (.inr (fun _ => none)))))), (q1, .inr (10, [.ref q2, .ref q3, .int 0, .int 0, .int 45]))] := hD
  refine va_astq hx hb hK hP hD hS 1 0 2 10 rfl rfl rfl rfl (by unfold vp_in; decide) dX6_team_24 (fun H locs hP hD hS => ?_)
  have hP : va_P (dC, dI) vwCl [(h0, .inr (11, zC a)), ((a 3), .inl (cT, 6, .inr (.inr (.inr (.inr (va_up (fun _ => none) (0 : Int32).toNatClampNeg (some q1))))))), (q1, .inr (10, [.ref q2, .ref q3, .int 0, .int 0, .int 45]))] H := hP
  have hD : va_D A [(h0, .inr (11, zC a)), ((a 3), .inl (cT, 6, .inr (.inr (.inr (.inr (va_up (fun _ => none) (0 : Int32).toNatClampNeg (some q1))))))), (q1, .inr (10, [.ref q2, .ref q3, .int 0, .int 0, .int 45]))] := hD
  refine lv_aload_n hx hb dX6_team_25 rfl (lv_at hl 0 rfl) ?_
  refine lv_dup hx hb dX6_team_26 rfl ?_
  refine va_get (D := (dC, dI)) (ci := 11) (v := .int 0) (C := RX6) (T := TX6) (N := 16) hx hb hts (by decide +kernel) hown hK hP 0 rfl rfl 7 (by decide) (hts (.fieldLink RX6 95 "Gangline" "teamCount" "I") (by decide +kernel)) (fun _ h9 => h9) rfl dX6_team_27 ?_
  refine lv_iconst (v := 1) hx hb dX6_team_30 (by decide) ?_
  refine lv_iadd hx hb dX6_team_31 ?_
  refine lv_topi (fun y4 e5 => ?_)
  obtain rfl : y4 = 1 := e5.trans (by decide)
  refine va_put (D := (dC, dI)) (ci := 11) (v := .int 1) (ty := .int) (C := RX6) (T := TX6) (N := 16) hx hb hts (by decide +kernel) tyX6 tyX6_ok nmX6 hown hK hP hD hS 0 rfl rfl 7 (by decide) (hts (.fieldLink RX6 95 "Gangline" "teamCount" "I") (by decide +kernel)) (fun _ h9 => h9) rfl (by decide +kernel) rfl rfl (Nat.le_of_ble_eq_true rfl) dX6_team_32 (fun H locs hP hD hS => ?_)
  have hP : va_P (dC, dI) vwCl [(h0, .inr (11, [.ref (a 0), .int 0, .ref (a 1), .int 0, .ref (a 2), .int 0, .ref (a 3), .int 1, .long 0, .int 0, .int 0, .ref (a 4), .ref (a 5), .ref (a 6), .ref (a 7), .int 0])), ((a 3), .inl (cT, 6, .inr (.inr (.inr (.inr (va_up (fun _ => none) (0 : Int32).toNatClampNeg (some q1))))))), (q1, .inr (10, [.ref q2, .ref q3, .int 0, .int 0, .int 45]))] H := hP
  have hD : va_D A [(h0, .inr (11, [.ref (a 0), .int 0, .ref (a 1), .int 0, .ref (a 2), .int 0, .ref (a 3), .int 1, .long 0, .int 0, .int 0, .ref (a 4), .ref (a 5), .ref (a 6), .ref (a 7), .int 0])), ((a 3), .inl (cT, 6, .inr (.inr (.inr (.inr (va_up (fun _ => none) (0 : Int32).toNatClampNeg (some q1))))))), (q1, .inr (10, [.ref q2, .ref q3, .int 0, .int 0, .int 45]))] := hD
  refine lv_aload_n hx hb dX6_team_35 rfl (lv_at hl 0 rfl) ?_
  refine va_get (D := (dC, dI)) (ci := 11) (v := .int 1) (C := RX6) (T := TX6) (N := 16) hx hb hts (by decide +kernel) hown hK hP 0 rfl rfl 7 (by decide) (hts (.fieldLink RX6 95 "Gangline" "teamCount" "I") (by decide +kernel)) (fun _ h9 => h9) rfl dX6_team_36 ?_
  refine lv_iconst (v := 1) hx hb dX6_team_39 (by decide) ?_
  refine lv_isub hx hb dX6_team_40 ?_
  refine lv_topi (fun y6 e7 => ?_)
  obtain rfl : y6 = 0 := e7.trans (by decide)
  exact W.iret (v := 0) hx hb hr (fun t ht hW => ⟨⟨0, (), rfl, rfl, trivial⟩, hS.F ht⟩) hS.2.2 dX6_team_41

set_option maxRecDepth 20000 in
theorem ggX6_purse_X6_needRange : GoodIn wsX6_purse wsX6_needRange := goodIn_ca (goodIn_r _ [6, 7, 8] (by decide +kernel) (by decide +kernel)) (goodIn_sub (fun _ h => List.mem_cons_of_mem _ (List.mem_append_right _ h)) (by decide +kernel))
set_option maxRecDepth 20000 in
theorem gX6_purse_X6_needRange : GoodIn wsX6_purse (va_wsS RX6 60 yX6_needRange wsX6_needRange) := goodIn_app (goodIn_of _ (by decide +kernel)) ggX6_purse_X6_needRange
theorem dX6_purse_0 : decode cX6_purse 0 = .ok (.iload_n 1, 1) := by decide +kernel
theorem dX6_purse_1 : decode cX6_purse 1 = .ok (.iconst 0, 1) := by decide +kernel
theorem dX6_purse_2 : decode cX6_purse 2 = .ok (.ldc_w 369, 3) := by decide +kernel
theorem dX6_purse_5 : decode cX6_purse 5 = .ok (.invokestatic 60, 3) := by decide +kernel
theorem dX6_purse_8 : decode cX6_purse 8 = .ok (.aload_n 0, 1) := by decide +kernel
theorem dX6_purse_9 : decode cX6_purse 9 = .ok (.dup, 1) := by decide +kernel
theorem dX6_purse_10 : decode cX6_purse 10 = .ok (.getfield 370, 3) := by decide +kernel
theorem dX6_purse_13 : decode cX6_purse 13 = .ok (.iload_n 1, 1) := by decide +kernel
theorem dX6_purse_14 : decode cX6_purse 14 = .ok (.i2l, 1) := by decide +kernel
theorem dX6_purse_15 : decode cX6_purse 15 = .ok (.ladd, 1) := by decide +kernel
theorem dX6_purse_16 : decode cX6_purse 16 = .ok (.putfield 370, 3) := by decide +kernel
theorem dX6_purse_19 : decode cX6_purse 19 = .ok (.aload_n 0, 1) := by decide +kernel
theorem dX6_purse_20 : decode cX6_purse 20 = .ok (.getfield 370, 3) := by decide +kernel
theorem dX6_purse_23 : decode cX6_purse 23 = .ok (.lreturn, 1) := by decide +kernel
set_option maxHeartbeats 4000000 in
set_option maxRecDepth 100000 in
theorem c_X6_purse_in (l : Launch) (htr : l.stackTraces = false) (dC : Nat → ClassId) (dI : Nat → Nat → Nat) (e0 sz : Nat) (h0 : Nat) (a : Nat → Nat) (p0 : Int32) (hin : (0 ≤ p0 ∧ p0 ≤ 99999)) : Met l yX6_purse wsX6_purse ({ frames := 1, cells := 0, slots := 0, locals := 22 }) (va_Pc [.ref h0, .int p0] (fun U => U.heap.size = sz ∧ va_P (dC, dI) vwCl [(h0, .inr (11, zC a))] U.heap ∧ va_K (dC, dI) vwCl [] U ∧ va_D (fun _ => True) [(h0, .inr (11, zC a))] ∧ zE e0 (va_A [(h0, .inr (11, zC a))] sz) U U.heap)) (va_Ql (fun (r : Int64) (_ : Unit) => r = (p0).toInt64) (fun _ t => True) (va_A [(h0, .inr (11, zC a))] sz)) 0 0 (va_A [(h0, .inr (11, zC a))] sz) := by
  refine Met.ofW (cc := cX6_purse) (maxL := 2) (ret := (some .long)) (by decide) rfl ?_
  intro p e s m args below meth c s₁ B hml hv
  obtain ⟨rfl, hsz, hP, hK, hD0, hE⟩ := hv
  have hx := B.exec
  have hb := B.bytes
  have hr := B.returns
  have hts := atoms_spec (ws := wsX6_purse) B.pre
  have hown : s.vm.findClass RX6 = some m.cls := findClass_of_methodNamed B.named
  have hlocks := B.notSynchronized
  subst hsz
  have hD := hD0.self (sz := s.heap.size)
  generalize hAe : va_A [(h0, .inr (11, zC a))] s.heap.size = A at hD hE ⊢
  have hA : ∀ q : Nat, s.heap.size ≤ q → A q := fun q h => by rw [← hAe]; exact Or.inr h
  have hS : va_S A s.heap s.heap [] := va_S.rf
  have hl := lv_entry ([.ref h0, .int p0]) (n := 2) (Nat.le_of_ble_eq_true rfl)
  rw [lg_entry_eq]
  generalize (lg_sl ([.ref h0, .int p0]) ++ List.replicate (2 - (lg_sl ([.ref h0, .int p0])).length) Slot.unset).toArray = ls at hl ⊢
  have hl : lv_has ls 2 [(0, .ref h0), (1, .int p0)] := hl
  refine lv_iload_n hx hb dX6_purse_0 rfl (lv_at hl 1 rfl) ?_
  refine lv_iconst (v := 0) hx hb dX6_purse_1 (by decide) ?_
  refine lv_ldcw hx hb hown (hts (.constant RX6 369 (99999)) (by decide +kernel)) dX6_purse_2 ?_
  have hPc := hP.sub (ws' := []) [] rfl
  have hDc := hD.sub (ws' := []) [] (by decide) rfl
  have hKc := hK.sub (tys' := []) [] rfl
  have hFc := va_free (wc := []) hD hS hA [] rfl
  refine va_callv (va_runS (As := [.int p0, .int 0, .int (99999)]) (rest := []) ⟨hx, hb, hml, hown, hts⟩ (c_X6_needRange_in l htr dC dI e0 s.heap.size p0 0 (99999) hin) (va_cwS 3 hts gX6_purse_X6_needRange rfl rfl rfl (by decide +kernel) ⟨Nat.le_of_ble_eq_true rfl, Nat.le_of_ble_eq_true rfl⟩) ⟨fun a U g mk q => by obtain ⟨q0, q1, qP, qK, qD⟩ := q; exact ⟨q0, q1, qP, va_K.moved (u := U) (U := U.calling g mk a) (Vm.Alike.refl U.vm) qK, qD⟩, fun U hU hW => ⟨rfl, by rw [hU], by rw [hU]; exact hPc, va_K.moved hW.alike hKc, hDc.weaken (fun _ _ _ _ => trivial)⟩⟩ rfl rfl hl.1 rfl (lv_room (Nat.le_of_ble_eq_true rfl)) dX6_purse_5 ⟨Nat.le_of_ble_eq_true rfl, Nat.le_of_ble_eq_true rfl⟩) hS (fun q _ h => hFc q h) hFc (fun u t H1 locs ht hvm hw hB hz1 hk1 hS => ?_)
  have hP1 : va_P (dC, dI) vwCl [] H1 := fun k q h => by simp at h
  have hD1 : va_D (va_A [] s.heap.size) [] := ⟨fun i j p q h => by simp at h, fun k q h => by simp at h⟩
  obtain ⟨hP, hD⟩ := va_join (wr := [(h0, .inr (11, zC a))]) (w1 := []) hP hD [] [0] rfl rfl (by decide) (by decide) hk1 hFc hP1 hD1
  generalize H1 = H at hP hS ⊢
  have hP : va_P (dC, dI) vwCl [(h0, .inr (11, zC a))] H := hP
  have hD : va_D A [(h0, .inr (11, zC a))] := hD
  refine lv_aload_n hx hb dX6_purse_8 rfl (lv_at hl 0 rfl) ?_
  refine lv_dup hx hb dX6_purse_9 rfl ?_
  refine va_get (D := (dC, dI)) (ci := 11) (v := .long 0) (C := RX6) (T := TX6) (N := 16) hx hb hts (by decide +kernel) hown hK hP 0 rfl rfl 8 (by decide) (hts (.fieldLink RX6 370 "Gangline" "purse" "J") (by decide +kernel)) (fun _ h9 => h9) rfl dX6_purse_10 ?_
  refine lv_iload_n hx hb dX6_purse_13 rfl (lv_at hl 1 rfl) ?_
  refine lv_i2l (v := (p0).toInt64) hx hb dX6_purse_14 rfl ?_
  refine lv_ladd hx hb dX6_purse_15 ?_
  refine lv_topl (fun y1 e2 => ?_)
  obtain rfl : y1 = (p0).toInt64 := e2.trans (Int64.zero_add _)
  refine va_put (D := (dC, dI)) (ci := 11) (v := .long (p0).toInt64) (ty := .long) (C := RX6) (T := TX6) (N := 16) hx hb hts (by decide +kernel) tyX6 tyX6_ok nmX6 hown hK hP hD hS 0 rfl rfl 8 (by decide) (hts (.fieldLink RX6 370 "Gangline" "purse" "J") (by decide +kernel)) (fun _ h9 => h9) rfl (by decide +kernel) rfl rfl (Nat.le_of_ble_eq_true rfl) dX6_purse_16 (fun H locs hP hD hS => ?_)
  have hP : va_P (dC, dI) vwCl [(h0, .inr (11, [.ref (a 0), .int 0, .ref (a 1), .int 0, .ref (a 2), .int 0, .ref (a 3), .int 0, .long (p0).toInt64, .int 0, .int 0, .ref (a 4), .ref (a 5), .ref (a 6), .ref (a 7), .int 0]))] H := hP
  have hD : va_D A [(h0, .inr (11, [.ref (a 0), .int 0, .ref (a 1), .int 0, .ref (a 2), .int 0, .ref (a 3), .int 0, .long (p0).toInt64, .int 0, .int 0, .ref (a 4), .ref (a 5), .ref (a 6), .ref (a 7), .int 0]))] := hD
  refine lv_aload_n hx hb dX6_purse_19 rfl (lv_at hl 0 rfl) ?_
  refine va_get (D := (dC, dI)) (ci := 11) (v := .long (p0).toInt64) (C := RX6) (T := TX6) (N := 16) hx hb hts (by decide +kernel) hown hK hP 0 rfl rfl 8 (by decide) (hts (.fieldLink RX6 370 "Gangline" "purse" "J") (by decide +kernel)) (fun _ h9 => h9) rfl dX6_purse_20 ?_
  exact W.lret (v := (p0).toInt64) hx hb hr (fun t ht hW => ⟨⟨(p0).toInt64, (), rfl, rfl, trivial⟩, hS.F ht⟩) hS.2.2 dX6_purse_23

set_option maxHeartbeats 4000000 in
set_option maxRecDepth 100000 in
theorem c_X6_purse_no (l : Launch) (htr : l.stackTraces = false) (dC : Nat → ClassId) (dI : Nat → Nat → Nat) (e0 sz : Nat) (h0 : Nat) (a : Nat → Nat) (p0 : Int32) (hnot : ¬ (0 ≤ p0 ∧ p0 ≤ 99999)) : vx_Met l yX6_purse wsX6_purse ({ frames := 7, cells := 1, slots := 6, locals := 112 }) (va_Pc [.ref h0, .int p0] (fun U => U.heap.size = sz ∧ va_P (dC, dI) vwCl [(h0, .inr (11, zC a))] U.heap ∧ va_K (dC, dI) vwCl [] U ∧ va_D (fun _ => True) [(h0, .inr (11, zC a))] ∧ zE e0 (va_A [(h0, .inr (11, zC a))] sz) U U.heap)) (va_Ql (fun (r : Int64) (_ : Unit) => False) (fun _ t => True) (va_A [(h0, .inr (11, zC a))] sz)) (zX zG (va_A [(h0, .inr (11, zC a))] sz)) 1 6 (va_A [(h0, .inr (11, zC a))] sz) := by
  refine vx_ofW (cc := cX6_purse) (maxL := 2) (ret := (some .long)) (by decide) rfl ?_
  intro p e s m args below meth c s₁ B hml hxt hv
  obtain ⟨rfl, hsz, hP, hK, hD0, hE⟩ := hv
  have hx := B.exec
  have hb := B.bytes
  have hr := B.returns
  have hts := atoms_spec (ws := wsX6_purse) B.pre
  have hown : s.vm.findClass RX6 = some m.cls := findClass_of_methodNamed B.named
  have hlocks := B.notSynchronized
  subst hsz
  have hD := hD0.self (sz := s.heap.size)
  generalize hAe : va_A [(h0, .inr (11, zC a))] s.heap.size = A at hD hE ⊢
  have hA : ∀ q : Nat, s.heap.size ≤ q → A q := fun q h => by rw [← hAe]; exact Or.inr h
  have hS : va_S A s.heap s.heap [] := va_S.rf
  have hl := lv_entry ([.ref h0, .int p0]) (n := 2) (Nat.le_of_ble_eq_true rfl)
  rw [lg_entry_eq]
  generalize (lg_sl ([.ref h0, .int p0]) ++ List.replicate (2 - (lg_sl ([.ref h0, .int p0])).length) Slot.unset).toArray = ls at hl ⊢
  have hl : lv_has ls 2 [(0, .ref h0), (1, .int p0)] := hl
  refine lv_iload_n hx hb dX6_purse_0 rfl (lv_at hl 1 rfl) ?_
  refine lv_iconst (v := 0) hx hb dX6_purse_1 (by decide) ?_
  refine lv_ldcw hx hb hown (hts (.constant RX6 369 (99999)) (by decide +kernel)) dX6_purse_2 ?_
  have hPc := hP.sub (ws' := []) [] rfl
  have hDc := hD.sub (ws' := []) [] (by decide) rfl
  have hKc := hK.sub (tys' := []) [] rfl
  have hFc := va_free (wc := []) hD hS hA [] rfl
  have hEc := (hE.kept hS.2.1).narrow hFc
  refine vx_callv (vx_runS (As := [.int p0, .int 0, .int (99999)]) (rest := []) ⟨hx, hb, hml, hown, hts⟩ (c_X6_needRange_no l htr dC dI e0 s.heap.size p0 0 (99999) hnot) (va_cwS 3 hts gX6_purse_X6_needRange rfl rfl rfl (by decide +kernel) ⟨Nat.le_of_ble_eq_true rfl, Nat.le_of_ble_eq_true rfl⟩) ⟨fun a U g mk q => by obtain ⟨q0, q1, qP, qK, qD, qE⟩ := q; exact ⟨q0, q1, qP, va_K.moved (u := U) (U := U.calling g mk a) (Vm.Alike.refl U.vm) qK, qD, zE.same rfl qE⟩, fun U hU hW => ⟨rfl, by rw [hU], by rw [hU]; exact hPc, va_K.moved hW.alike hKc, hDc.weaken (fun _ _ _ _ => trivial), by rw [hU]; exact zE.warm hW hEc⟩⟩ rfl rfl hl.1 rfl (lv_room (Nat.le_of_ble_eq_true rfl)) dX6_purse_5 ⟨Nat.le_of_ble_eq_true rfl, Nat.le_of_ble_eq_true rfl⟩) hS (fun q _ h => hFc q h) hFc (fun q _ h => hFc q h) (fun E ce q9 u t H1 locs1 ht hvm hpx hBX hz1 hk1 hS hce hcv hcl => ?_) (fun u t H1 locs1 ht hvm hw hB hz1 hk1 hS => absurd hw id)
  exact vx_out (fun x hx9 => absurd (hxt x hx9) id) hlocks hce hcv hcl (fun t9 h1 h2 => ⟨(), trivial, hBX, hS.F h1⟩) hS.2.2 (Nat.le_of_ble_eq_true rfl) (Nat.le_of_ble_eq_true rfl)

theorem dX6_teamAt_0 : decode cX6_teamAt 0 = .ok (.iconst 0, 1) := by decide +kernel
theorem dX6_teamAt_1 : decode cX6_teamAt 1 = .ok (.istore_n 2, 1) := by decide +kernel
theorem dX6_teamAt_2 : decode cX6_teamAt 2 = .ok (.iload_n 2, 1) := by decide +kernel
theorem dX6_teamAt_3 : decode cX6_teamAt 3 = .ok (.aload_n 0, 1) := by decide +kernel
theorem dX6_teamAt_4 : decode cX6_teamAt 4 = .ok (.getfield 95, 3) := by decide +kernel
theorem dX6_teamAt_7 : decode cX6_teamAt 7 = .ok (.if_icmp .ge 35, 3) := by decide +kernel
theorem dX6_teamAt_42 : decode cX6_teamAt 42 = .ok (.iconst (-1), 1) := by decide +kernel
theorem dX6_teamAt_43 : decode cX6_teamAt 43 = .ok (.ireturn, 1) := by decide +kernel
set_option maxHeartbeats 4000000 in
set_option maxRecDepth 100000 in
theorem c_X6_teamAt (l : Launch) (htr : l.stackTraces = false) (dC : Nat → ClassId) (dI : Nat → Nat → Nat) (e0 sz : Nat) (h0 : Nat) (a : Nat → Nat) (p0 : Int32) : Met l yX6_teamAt wsX6_teamAt ({ frames := 0, cells := 0, slots := 0, locals := 0 }) (va_Pc [.ref h0, .int p0] (fun U => U.heap.size = sz ∧ va_P (dC, dI) vwCl [(h0, .inr (11, zC a))] U.heap ∧ va_K (dC, dI) vwCl [] U ∧ va_D (fun _ => True) [(h0, .inr (11, zC a))])) (va_Qi (fun (r : Int32) (_ : Unit) => r = (-1)) (fun _ t => va_P (dC, dI) vwCl [(h0, .inr (11, zC a))] t.heap ∧ va_K (dC, dI) vwCl [] t ∧ va_D (va_A [(h0, .inr (11, zC a))] sz) [(h0, .inr (11, zC a))]) (va_A [(h0, .inr (11, zC a))] sz)) 0 0 (va_A [(h0, .inr (11, zC a))] sz) := by
  refine Met.ofW (cc := cX6_teamAt) (maxL := 3) (ret := (some .int)) (by decide) rfl ?_
  intro p e s m args below meth c s₁ B hml hv
  obtain ⟨rfl, hsz, hP, hK, hD0⟩ := hv
  have hx := B.exec
  have hb := B.bytes
  have hr := B.returns
  have hts := atoms_spec (ws := wsX6_teamAt) B.pre
  have hown : s.vm.findClass RX6 = some m.cls := findClass_of_methodNamed B.named
  have hlocks := B.notSynchronized
  subst hsz
  have hD := hD0.self (sz := s.heap.size)
  generalize hAe : va_A [(h0, .inr (11, zC a))] s.heap.size = A at hD ⊢
  have hA : ∀ q : Nat, s.heap.size ≤ q → A q := fun q h => by rw [← hAe]; exact Or.inr h
  have hS : va_S A s.heap s.heap [] := va_S.rf
  have hl := lv_entry ([.ref h0, .int p0]) (n := 3) (Nat.le_of_ble_eq_true rfl)
  rw [lg_entry_eq]
  generalize (lg_sl ([.ref h0, .int p0]) ++ List.replicate (3 - (lg_sl ([.ref h0, .int p0])).length) Slot.unset).toArray = ls at hl ⊢
  have hl : lv_has ls 3 [(0, .ref h0), (1, .int p0)] := hl
  refine lv_iconst (v := 0) hx hb dX6_teamAt_0 (by decide) ?_
  refine lv_istore_n (lv' := [(2, .int 0), (0, .ref h0), (1, .int p0)]) hx hb dX6_teamAt_1 rfl hl (by decide) rfl (fun ls hl => ?_)
  refine lv_iload_n hx hb dX6_teamAt_2 rfl (lv_at hl 0 rfl) ?_
  refine lv_aload_n hx hb dX6_teamAt_3 rfl (lv_at hl 1 rfl) ?_
  refine va_get (D := (dC, dI)) (ci := 11) (v := .int 0) (C := RX6) (T := TX6) (N := 16) hx hb hts (by decide +kernel) hown hK hP 0 rfl rfl 7 (by decide) (hts (.fieldLink RX6 95 "Gangline" "teamCount" "I") (by decide +kernel)) (fun _ h9 => h9) rfl dX6_teamAt_4 ?_
  refine lv_icmp_ge (tgt := 42) hx hb dX6_teamAt_7 (by decide) (fun _ => ?_) (fun c1 => absurd (by decide) c1)
  refine lv_iconst (v := (-1)) hx hb dX6_teamAt_42 (by decide) ?_
  have hP9 := hP.sub (ws' := [(h0, .inr (11, zC a))]) [0] rfl
  have hD9 := hD.sub (ws' := [(h0, .inr (11, zC a))]) [0] (by decide) rfl
  have hK9 := hK.sub (tys' := []) [] rfl
  exact W.iret (v := (-1)) hx hb hr (fun t ht hW => ⟨⟨(-1), (), rfl, rfl, ⟨by rw [ht]; exact hP9, va_K.moved hW.alike hK9, hD9⟩⟩, hS.F ht⟩) hS.2.2 dX6_teamAt_43

set_option maxRecDepth 20000 in
theorem ggX6_payPlace_X6_teamAt : GoodIn wsX6_payPlace wsX6_teamAt := goodIn_r _ [10, 11, 1, 2, 12, 13, 9, 14, 3, 15, 16, 17, 18, 19, 20, 21, 22, 23, 24, 25, 26, 27, 28, 29, 30, 31, 32, 33, 34, 35, 36, 37, 38, 39, 40, 41, 42, 43, 44, 45, 46, 47, 48, 49, 50, 51, 52, 53, 54, 55, 56, 57, 58, 59, 60, 61, 62, 63, 64, 65, 66, 67, 68, 69, 70, 71, 72, 73, 74, 75, 76, 77, 78, 79, 80, 81, 82, 83, 84, 85, 86, 87, 88, 89, 90, 91, 92, 93, 94, 95, 96, 97] (by decide +kernel) (by decide +kernel)
set_option maxRecDepth 20000 in
theorem gX6_payPlace_X6_teamAt : GoodIn wsX6_payPlace (wsV RX6 357 RX6 yX6_teamAt wsX6_teamAt) := goodIn_app (goodIn_of _ (by decide +kernel)) ggX6_payPlace_X6_teamAt
theorem dX6_payPlace_0 : decode cX6_payPlace 0 = .ok (.aload_n 0, 1) := by decide +kernel
theorem dX6_payPlace_1 : decode cX6_payPlace 1 = .ok (.iload_n 1, 1) := by decide +kernel
theorem dX6_payPlace_2 : decode cX6_payPlace 2 = .ok (.invokevirtual 357, 3) := by decide +kernel
theorem dX6_payPlace_5 : decode cX6_payPlace 5 = .ok (.istore 4, 2) := by decide +kernel
theorem dX6_payPlace_7 : decode cX6_payPlace 7 = .ok (.iload 4, 2) := by decide +kernel
theorem dX6_payPlace_9 : decode cX6_payPlace 9 = .ok (.iconst (-1), 1) := by decide +kernel
theorem dX6_payPlace_10 : decode cX6_payPlace 10 = .ok (.if_icmp .eq 21, 3) := by decide +kernel
theorem dX6_payPlace_31 : decode cX6_payPlace 31 = .ok (.return_, 1) := by decide +kernel
set_option maxHeartbeats 4000000 in
set_option maxRecDepth 100000 in
theorem c_X6_payPlace (l : Launch) (htr : l.stackTraces = false) (dC : Nat → ClassId) (dI : Nat → Nat → Nat) (e0 sz : Nat) (h0 : Nat) (a : Nat → Nat) (p0 : Int32) (p1 : Int64) : Met l yX6_payPlace wsX6_payPlace ({ frames := 1, cells := 0, slots := 0, locals := 22 }) (va_Pc [.ref h0, .int p0, .long p1] (fun U => U.heap.size = sz ∧ va_P (dC, dI) vwCl [(h0, .inr (11, zC a))] U.heap ∧ va_K (dC, dI) vwCl [] U ∧ va_D (fun _ => True) [(h0, .inr (11, zC a))])) (va_Qv (fun _ : Unit => True) (fun _ t => va_P (dC, dI) vwCl [(h0, .inr (11, zC a))] t.heap ∧ va_K (dC, dI) vwCl [] t ∧ va_D (va_A [(h0, .inr (11, zC a))] sz) [(h0, .inr (11, zC a))]) (va_A [(h0, .inr (11, zC a))] sz)) 0 0 (va_A [(h0, .inr (11, zC a))] sz) := by
  refine Met.ofW (cc := cX6_payPlace) (maxL := 5) (ret := none) (by decide) rfl ?_
  intro p e s m args below meth c s₁ B hml hv
  obtain ⟨rfl, hsz, hP, hK, hD0⟩ := hv
  have hx := B.exec
  have hb := B.bytes
  have hr := B.returns
  have hts := atoms_spec (ws := wsX6_payPlace) B.pre
  have hown : s.vm.findClass RX6 = some m.cls := findClass_of_methodNamed B.named
  have hlocks := B.notSynchronized
  subst hsz
  have hD := hD0.self (sz := s.heap.size)
  generalize hAe : va_A [(h0, .inr (11, zC a))] s.heap.size = A at hD ⊢
  have hA : ∀ q : Nat, s.heap.size ≤ q → A q := fun q h => by rw [← hAe]; exact Or.inr h
  have hS : va_S A s.heap s.heap [] := va_S.rf
  have hl := lv_entry ([.ref h0, .int p0, .long p1]) (n := 5) (Nat.le_of_ble_eq_true rfl)
  rw [lg_entry_eq]
  generalize (lg_sl ([.ref h0, .int p0, .long p1]) ++ List.replicate (5 - (lg_sl ([.ref h0, .int p0, .long p1])).length) Slot.unset).toArray = ls at hl ⊢
  have hl : lv_has ls 5 [(0, .ref h0), (1, .int p0), (2, .long p1)] := hl
  refine lv_aload_n hx hb dX6_payPlace_0 rfl (lv_at hl 0 rfl) ?_
  refine lv_iload_n hx hb dX6_payPlace_1 rfl (lv_at hl 1 rfl) ?_
  have hPc := hP.sub (ws' := [(h0, .inr (11, zC a))]) [0] rfl
  have hDc := hD.sub (ws' := [(h0, .inr (11, zC a))]) [0] (by decide) rfl
  have hKc := hK.sub (tys' := []) [] rfl
  have hFc := va_free (wc := [(h0, .inr (11, zC a))]) hD hS hA [0] rfl
  refine va_calli (va_runV (As := [.int p0]) (rest := []) ⟨hx, hb, hml, hown, hts⟩ (c_X6_teamAt l htr dC dI e0 s.heap.size h0 a p0) (cwV 1 hts gX6_payPlace_X6_teamAt rfl rfl rfl (by decide +kernel) ⟨Nat.le_of_ble_eq_true rfl, Nat.le_of_ble_eq_true rfl⟩) ⟨fun a U g mk q => by obtain ⟨q0, q1, qP, qK, qD⟩ := q; exact ⟨q0, q1, qP, va_K.moved (u := U) (U := U.calling g mk a) (Vm.Alike.refl U.vm) qK, qD⟩, va_recv hKc hPc (ci := 11) (q0 := 0) rfl rfl, fun U hU hW => ⟨rfl, by rw [hU], by rw [hU]; exact hPc, va_K.moved hW.alike hKc, hDc.weaken (fun _ _ _ _ => trivial)⟩⟩ rfl rfl hl.1 rfl (lv_room (Nat.le_of_ble_eq_true rfl)) dX6_payPlace_2 ⟨Nat.le_of_ble_eq_true rfl, Nat.le_of_ble_eq_true rfl⟩) hS (fun q _ h => hFc q h) hFc (fun r1 u t H1 locs ht hvm hw hB hz1 hk1 hS => ?_)
  obtain ⟨hP1, hK1, hD1⟩ := hB
  rw [ht] at hP1
  obtain ⟨hP, hD⟩ := va_join (wr := []) (w1 := [(h0, .inr (11, zC a))]) hP hD [0] [] rfl rfl (by decide) (by decide) hk1 hFc hP1 hD1
  generalize H1 = H at hP hS ⊢
  have hP : va_P (dC, dI) vwCl [(h0, .inr (11, zC a))] H := hP
  have hD : va_D A [(h0, .inr (11, zC a))] := hD
  obtain rfl : r1 = (-1) := hw
  refine lv_istore (lv' := [(4, .int (-1)), (0, .ref h0), (1, .int p0), (2, .long p1)]) hx hb dX6_payPlace_5 hl (by decide) rfl (fun ls hl => ?_)
  refine lv_iload hx hb dX6_payPlace_7 (lv_at hl 0 rfl) ?_
  refine lv_iconst (v := (-1)) hx hb dX6_payPlace_9 (by decide) ?_
  refine lv_icmp_eq (tgt := 31) hx hb dX6_payPlace_10 (by decide) (fun _ => ?_) (fun c2 => absurd (by decide) c2)
  have hP9 := hP.sub (ws' := [(h0, .inr (11, zC a))]) [0] rfl
  have hD9 := hD.sub (ws' := [(h0, .inr (11, zC a))]) [0] (by decide) rfl
  have hK9 := hK.sub (tys' := []) [] rfl
  exact W.vret hx hb hr (fun t ht hW => ⟨⟨(), rfl, trivial, ⟨by rw [ht]; exact hP9, va_K.moved hW.alike hK9, hD9⟩⟩, hS.F ht⟩) hS.2.2 dX6_payPlace_31

set_option maxRecDepth 20000 in
theorem ggX6_shareOut_X6_payPlace : GoodIn wsX6_shareOut wsX6_payPlace := goodIn_r _ [9, 10, 11, 12, 13, 1, 14, 15, 16, 8, 17, 18, 19, 20, 21, 22, 23, 24, 25, 26, 27, 28, 29, 30, 31, 32, 33, 34, 35, 36, 37, 38, 39, 40, 41, 42, 43, 44, 45, 46, 47, 48, 49, 50, 51, 52, 53, 54, 55, 56, 57, 58, 59, 60, 61, 62, 63, 64, 65, 66, 67, 68, 69, 70, 71, 72, 73, 74, 75, 76, 77, 78, 79, 80, 81, 82, 83, 84, 85, 86, 87, 88, 89, 90, 91, 92, 93, 94, 95, 96, 97, 98, 99, 100, 101, 102, 103, 104] (by decide +kernel) (by decide +kernel)
set_option maxRecDepth 20000 in
theorem gX6_shareOut_X6_payPlace : GoodIn wsX6_shareOut (wsV RX6 554 RX6 yX6_payPlace wsX6_payPlace) := goodIn_app (goodIn_of _ (by decide +kernel)) ggX6_shareOut_X6_payPlace
theorem dX6_shareOut_0 : decode cX6_shareOut 0 = .ok (.aload_n 0, 1) := by decide +kernel
theorem dX6_shareOut_1 : decode cX6_shareOut 1 = .ok (.getfield 370, 3) := by decide +kernel
theorem dX6_shareOut_4 : decode cX6_shareOut 4 = .ok (.lstore_n 1, 1) := by decide +kernel
theorem dX6_shareOut_5 : decode cX6_shareOut 5 = .ok (.aload_n 0, 1) := by decide +kernel
theorem dX6_shareOut_6 : decode cX6_shareOut 6 = .ok (.iconst 0, 1) := by decide +kernel
theorem dX6_shareOut_7 : decode cX6_shareOut 7 = .ok (.lload_n 1, 1) := by decide +kernel
theorem dX6_shareOut_8 : decode cX6_shareOut 8 = .ok (.ldc2_w 552, 3) := by decide +kernel
theorem dX6_shareOut_11 : decode cX6_shareOut 11 = .ok (.ldiv, 1) := by decide +kernel
theorem dX6_shareOut_12 : decode cX6_shareOut 12 = .ok (.invokevirtual 554, 3) := by decide +kernel
theorem dX6_shareOut_15 : decode cX6_shareOut 15 = .ok (.aload_n 0, 1) := by decide +kernel
theorem dX6_shareOut_16 : decode cX6_shareOut 16 = .ok (.iconst 1, 1) := by decide +kernel
theorem dX6_shareOut_17 : decode cX6_shareOut 17 = .ok (.lload_n 1, 1) := by decide +kernel
theorem dX6_shareOut_18 : decode cX6_shareOut 18 = .ok (.ldc2_w 558, 3) := by decide +kernel
theorem dX6_shareOut_21 : decode cX6_shareOut 21 = .ok (.lmul, 1) := by decide +kernel
theorem dX6_shareOut_22 : decode cX6_shareOut 22 = .ok (.ldc2_w 560, 3) := by decide +kernel
theorem dX6_shareOut_25 : decode cX6_shareOut 25 = .ok (.ldiv, 1) := by decide +kernel
theorem dX6_shareOut_26 : decode cX6_shareOut 26 = .ok (.invokevirtual 554, 3) := by decide +kernel
theorem dX6_shareOut_29 : decode cX6_shareOut 29 = .ok (.aload_n 0, 1) := by decide +kernel
theorem dX6_shareOut_30 : decode cX6_shareOut 30 = .ok (.iconst 2, 1) := by decide +kernel
theorem dX6_shareOut_31 : decode cX6_shareOut 31 = .ok (.lload_n 1, 1) := by decide +kernel
theorem dX6_shareOut_32 : decode cX6_shareOut 32 = .ok (.ldc2_w 552, 3) := by decide +kernel
theorem dX6_shareOut_35 : decode cX6_shareOut 35 = .ok (.lmul, 1) := by decide +kernel
theorem dX6_shareOut_36 : decode cX6_shareOut 36 = .ok (.ldc2_w 560, 3) := by decide +kernel
theorem dX6_shareOut_39 : decode cX6_shareOut 39 = .ok (.ldiv, 1) := by decide +kernel
theorem dX6_shareOut_40 : decode cX6_shareOut 40 = .ok (.invokevirtual 554, 3) := by decide +kernel
theorem dX6_shareOut_43 : decode cX6_shareOut 43 = .ok (.return_, 1) := by decide +kernel
set_option maxHeartbeats 4000000 in
set_option maxRecDepth 100000 in
theorem c_X6_shareOut (l : Launch) (htr : l.stackTraces = false) (dC : Nat → ClassId) (dI : Nat → Nat → Nat) (e0 sz : Nat) (h0 : Nat) (a : Nat → Nat) : Met l yX6_shareOut wsX6_shareOut ({ frames := 2, cells := 0, slots := 0, locals := 46 }) (va_Pc [.ref h0] (fun U => U.heap.size = sz ∧ va_P (dC, dI) vwCl [(h0, .inr (11, zC a))] U.heap ∧ va_K (dC, dI) vwCl [] U ∧ va_D (fun _ => True) [(h0, .inr (11, zC a))])) (va_Qv (fun _ : Unit => True) (fun _ t => va_P (dC, dI) vwCl [(h0, .inr (11, zC a))] t.heap ∧ va_K (dC, dI) vwCl [] t ∧ va_D (va_A [(h0, .inr (11, zC a))] sz) [(h0, .inr (11, zC a))]) (va_A [(h0, .inr (11, zC a))] sz)) 0 0 (va_A [(h0, .inr (11, zC a))] sz) := by
  refine Met.ofW (cc := cX6_shareOut) (maxL := 3) (ret := none) (by decide) rfl ?_
  intro p e s m args below meth c s₁ B hml hv
  obtain ⟨rfl, hsz, hP, hK, hD0⟩ := hv
  have hx := B.exec
  have hb := B.bytes
  have hr := B.returns
  have hts := atoms_spec (ws := wsX6_shareOut) B.pre
  have hown : s.vm.findClass RX6 = some m.cls := findClass_of_methodNamed B.named
  have hlocks := B.notSynchronized
  subst hsz
  have hD := hD0.self (sz := s.heap.size)
  generalize hAe : va_A [(h0, .inr (11, zC a))] s.heap.size = A at hD ⊢
  have hA : ∀ q : Nat, s.heap.size ≤ q → A q := fun q h => by rw [← hAe]; exact Or.inr h
  have hS : va_S A s.heap s.heap [] := va_S.rf
  have hl := lv_entry ([.ref h0]) (n := 3) (Nat.le_of_ble_eq_true rfl)
  rw [lg_entry_eq]
  generalize (lg_sl ([.ref h0]) ++ List.replicate (3 - (lg_sl ([.ref h0])).length) Slot.unset).toArray = ls at hl ⊢
  have hl : lv_has ls 3 [(0, .ref h0)] := hl
  refine lv_aload_n hx hb dX6_shareOut_0 rfl (lv_at hl 0 rfl) ?_
  refine va_get (D := (dC, dI)) (ci := 11) (v := .long 0) (C := RX6) (T := TX6) (N := 16) hx hb hts (by decide +kernel) hown hK hP 0 rfl rfl 8 (by decide) (hts (.fieldLink RX6 370 "Gangline" "purse" "J") (by decide +kernel)) (fun _ h9 => h9) rfl dX6_shareOut_1 ?_
  refine lv_lstore_n (lv' := [(1, .long 0), (0, .ref h0)]) hx hb dX6_shareOut_4 rfl hl (by decide) rfl (fun ls hl => ?_)
  refine lv_aload_n hx hb dX6_shareOut_5 rfl (lv_at hl 1 rfl) ?_
  refine lv_iconst (v := 0) hx hb dX6_shareOut_6 (by decide) ?_
  refine lv_lload_n hx hb dX6_shareOut_7 rfl (lv_at hl 0 rfl) ?_
  refine lv_ldc2 hx hb hown (hts (.constantLong RX6 552 (2)) (by decide +kernel)) dX6_shareOut_8 ?_
  refine lv_ldiv hx hb dX6_shareOut_11 (by decide) ?_
  refine lv_topl (fun y1 e2 => ?_)
  obtain rfl : y1 = 0 := e2.trans (by decide)
  have hPc := hP.sub (ws' := [(h0, .inr (11, zC a))]) [0] rfl
  have hDc := hD.sub (ws' := [(h0, .inr (11, zC a))]) [0] (by decide) rfl
  have hKc := hK.sub (tys' := []) [] rfl
  have hFc := va_free (wc := [(h0, .inr (11, zC a))]) hD hS hA [0] rfl
  refine va_callv (va_runV (As := [.int 0, .long 0]) (rest := []) ⟨hx, hb, hml, hown, hts⟩ (c_X6_payPlace l htr dC dI e0 s.heap.size h0 a 0 0) (cwV 2 hts gX6_shareOut_X6_payPlace rfl rfl rfl (by decide +kernel) ⟨Nat.le_of_ble_eq_true rfl, Nat.le_of_ble_eq_true rfl⟩) ⟨fun a U g mk q => by obtain ⟨q0, q1, qP, qK, qD⟩ := q; exact ⟨q0, q1, qP, va_K.moved (u := U) (U := U.calling g mk a) (Vm.Alike.refl U.vm) qK, qD⟩, va_recv hKc hPc (ci := 11) (q0 := 0) rfl rfl, fun U hU hW => ⟨rfl, by rw [hU], by rw [hU]; exact hPc, va_K.moved hW.alike hKc, hDc.weaken (fun _ _ _ _ => trivial)⟩⟩ rfl rfl hl.1 rfl (lv_room (Nat.le_of_ble_eq_true rfl)) dX6_shareOut_12 ⟨Nat.le_of_ble_eq_true rfl, Nat.le_of_ble_eq_true rfl⟩) hS (fun q _ h => hFc q h) hFc (fun u t H1 locs ht hvm hw hB hz1 hk1 hS => ?_)
  obtain ⟨hP1, hK1, hD1⟩ := hB
  rw [ht] at hP1
  obtain ⟨hP, hD⟩ := va_join (wr := []) (w1 := [(h0, .inr (11, zC a))]) hP hD [0] [] rfl rfl (by decide) (by decide) hk1 hFc hP1 hD1
  generalize H1 = H at hP hS ⊢
  have hP : va_P (dC, dI) vwCl [(h0, .inr (11, zC a))] H := hP
  have hD : va_D A [(h0, .inr (11, zC a))] := hD
  refine lv_aload_n hx hb dX6_shareOut_15 rfl (lv_at hl 1 rfl) ?_
  refine lv_iconst (v := 1) hx hb dX6_shareOut_16 (by decide) ?_
  refine lv_lload_n hx hb dX6_shareOut_17 rfl (lv_at hl 0 rfl) ?_
  refine lv_ldc2 hx hb hown (hts (.constantLong RX6 558 (3)) (by decide +kernel)) dX6_shareOut_18 ?_
  refine lv_lmul hx hb dX6_shareOut_21 ?_
  refine lv_topl (fun y3 e4 => ?_)
  obtain rfl : y3 = 0 := e4.trans (by decide)
  refine lv_ldc2 hx hb hown (hts (.constantLong RX6 560 (10)) (by decide +kernel)) dX6_shareOut_22 ?_
  refine lv_ldiv hx hb dX6_shareOut_25 (by decide) ?_
  refine lv_topl (fun y5 e6 => ?_)
  obtain rfl : y5 = 0 := e6.trans (by decide)
  have hPc := hP.sub (ws' := [(h0, .inr (11, zC a))]) [0] rfl
  have hDc := hD.sub (ws' := [(h0, .inr (11, zC a))]) [0] (by decide) rfl
  have hKc := hK.sub (tys' := []) [] rfl
  have hFc := va_free (wc := [(h0, .inr (11, zC a))]) hD hS hA [0] rfl
  refine va_callv (va_runV (As := [.int 1, .long 0]) (rest := []) ⟨hx, hb, hml, hown, hts⟩ (c_X6_payPlace l htr dC dI e0 H.size h0 a 1 0) (cwV 2 hts gX6_shareOut_X6_payPlace rfl rfl rfl (by decide +kernel) ⟨Nat.le_of_ble_eq_true rfl, Nat.le_of_ble_eq_true rfl⟩) ⟨fun a U g mk q => by obtain ⟨q0, q1, qP, qK, qD⟩ := q; exact ⟨q0, q1, qP, va_K.moved (u := U) (U := U.calling g mk a) (Vm.Alike.refl U.vm) qK, qD⟩, va_recv hKc hPc (ci := 11) (q0 := 0) rfl rfl, fun U hU hW => ⟨rfl, by rw [hU], by rw [hU]; exact hPc, va_K.moved hW.alike hKc, hDc.weaken (fun _ _ _ _ => trivial)⟩⟩ rfl rfl hl.1 rfl (lv_room (Nat.le_of_ble_eq_true rfl)) dX6_shareOut_26 ⟨Nat.le_of_ble_eq_true rfl, Nat.le_of_ble_eq_true rfl⟩) hS (fun q _ h => hFc q h) hFc (fun u t H1 locs ht hvm hw hB hz1 hk1 hS => ?_)
  obtain ⟨hP1, hK1, hD1⟩ := hB
  rw [ht] at hP1
  obtain ⟨hP, hD⟩ := va_join (wr := []) (w1 := [(h0, .inr (11, zC a))]) hP hD [0] [] rfl rfl (by decide) (by decide) hk1 hFc hP1 hD1
  generalize H1 = H at hP hS ⊢
  have hP : va_P (dC, dI) vwCl [(h0, .inr (11, zC a))] H := hP
  have hD : va_D A [(h0, .inr (11, zC a))] := hD
  refine lv_aload_n hx hb dX6_shareOut_29 rfl (lv_at hl 1 rfl) ?_
  refine lv_iconst (v := 2) hx hb dX6_shareOut_30 (by decide) ?_
  refine lv_lload_n hx hb dX6_shareOut_31 rfl (lv_at hl 0 rfl) ?_
  refine lv_ldc2 hx hb hown (hts (.constantLong RX6 552 (2)) (by decide +kernel)) dX6_shareOut_32 ?_
  refine lv_lmul hx hb dX6_shareOut_35 ?_
  refine lv_topl (fun y7 e8 => ?_)
  obtain rfl : y7 = 0 := e8.trans (by decide)
  refine lv_ldc2 hx hb hown (hts (.constantLong RX6 560 (10)) (by decide +kernel)) dX6_shareOut_36 ?_
  refine lv_ldiv hx hb dX6_shareOut_39 (by decide) ?_
  refine lv_topl (fun y9 e10 => ?_)
  obtain rfl : y9 = 0 := e10.trans (by decide)
  have hPc := hP.sub (ws' := [(h0, .inr (11, zC a))]) [0] rfl
  have hDc := hD.sub (ws' := [(h0, .inr (11, zC a))]) [0] (by decide) rfl
  have hKc := hK.sub (tys' := []) [] rfl
  have hFc := va_free (wc := [(h0, .inr (11, zC a))]) hD hS hA [0] rfl
  refine va_callv (va_runV (As := [.int 2, .long 0]) (rest := []) ⟨hx, hb, hml, hown, hts⟩ (c_X6_payPlace l htr dC dI e0 H.size h0 a 2 0) (cwV 2 hts gX6_shareOut_X6_payPlace rfl rfl rfl (by decide +kernel) ⟨Nat.le_of_ble_eq_true rfl, Nat.le_of_ble_eq_true rfl⟩) ⟨fun a U g mk q => by obtain ⟨q0, q1, qP, qK, qD⟩ := q; exact ⟨q0, q1, qP, va_K.moved (u := U) (U := U.calling g mk a) (Vm.Alike.refl U.vm) qK, qD⟩, va_recv hKc hPc (ci := 11) (q0 := 0) rfl rfl, fun U hU hW => ⟨rfl, by rw [hU], by rw [hU]; exact hPc, va_K.moved hW.alike hKc, hDc.weaken (fun _ _ _ _ => trivial)⟩⟩ rfl rfl hl.1 rfl (lv_room (Nat.le_of_ble_eq_true rfl)) dX6_shareOut_40 ⟨Nat.le_of_ble_eq_true rfl, Nat.le_of_ble_eq_true rfl⟩) hS (fun q _ h => hFc q h) hFc (fun u t H1 locs ht hvm hw hB hz1 hk1 hS => ?_)
  obtain ⟨hP1, hK1, hD1⟩ := hB
  rw [ht] at hP1
  obtain ⟨hP, hD⟩ := va_join (wr := []) (w1 := [(h0, .inr (11, zC a))]) hP hD [0] [] rfl rfl (by decide) (by decide) hk1 hFc hP1 hD1
  generalize H1 = H at hP hS ⊢
  have hP : va_P (dC, dI) vwCl [(h0, .inr (11, zC a))] H := hP
  have hD : va_D A [(h0, .inr (11, zC a))] := hD
  have hP9 := hP.sub (ws' := [(h0, .inr (11, zC a))]) [0] rfl
  have hD9 := hD.sub (ws' := [(h0, .inr (11, zC a))]) [0] (by decide) rfl
  have hK9 := hK.sub (tys' := []) [] rfl
  exact W.vret hx hb hr (fun t ht hW => ⟨⟨(), rfl, trivial, ⟨by rw [ht]; exact hP9, va_K.moved hW.alike hK9, hD9⟩⟩, hS.F ht⟩) hS.2.2 dX6_shareOut_43

set_option maxRecDepth 20000 in
theorem ggX6_endYear_X6_needNobodyOnWay : GoodIn wsX6_endYear wsX6_needNobodyOnWay := goodIn_ca (goodIn_r _ [16, 1, 2, 4, 17, 18, 19, 15, 20, 21, 22, 116, 117, 118, 119, 120, 121, 122, 123, 124, 125, 126, 127, 128, 129, 130, 131, 132, 133, 134, 135, 136, 140, 141, 142, 143, 144, 145, 146, 147, 148, 149, 150, 151, 152, 153, 154, 155, 156] (by decide +kernel) (by decide +kernel)) (goodIn_sub (fun _ h => List.mem_cons_of_mem _ (List.mem_append_left _ (List.mem_append_right _ h))) (by decide +kernel))
set_option maxRecDepth 20000 in
theorem gX6_endYear_X6_needNobodyOnWay : GoodIn wsX6_endYear (wsV RX6 64 RX6 yX6_needNobodyOnWay wsX6_needNobodyOnWay) := goodIn_app (goodIn_of _ (by decide +kernel)) ggX6_endYear_X6_needNobodyOnWay
set_option maxRecDepth 20000 in
theorem ggX6_endYear_X6_shareOut : GoodIn wsX6_endYear wsX6_shareOut := goodIn_r _ [26, 27, 28, 29, 30, 31, 32, 33, 15, 34, 2, 4, 17, 35, 36, 37, 38, 39, 1, 40, 41, 42, 43, 44, 45, 46, 47, 48, 49, 50, 51, 52, 53, 54, 55, 56, 57, 58, 59, 60, 61, 62, 63, 64, 65, 66, 67, 68, 69, 70, 71, 72, 73, 74, 75, 76, 77, 78, 79, 80, 81, 82, 116, 117, 118, 119, 120, 121, 122, 123, 124, 125, 126, 127, 128, 129, 130, 131, 132, 133, 134, 135, 136, 140, 141, 142, 143, 144, 145, 146, 147, 148, 149, 150, 151, 152, 153, 154, 155, 156, 157, 158, 159, 160, 161] (by decide +kernel) (by decide +kernel)
set_option maxRecDepth 20000 in
theorem gX6_endYear_X6_shareOut : GoodIn wsX6_endYear (wsV RX6 374 RX6 yX6_shareOut wsX6_shareOut) := goodIn_app (goodIn_of _ (by decide +kernel)) ggX6_endYear_X6_shareOut
theorem dX6_endYear_0 : decode cX6_endYear 0 = .ok (.aload_n 0, 1) := by decide +kernel
theorem dX6_endYear_1 : decode cX6_endYear 1 = .ok (.invokevirtual 64, 3) := by decide +kernel
theorem dX6_endYear_4 : decode cX6_endYear 4 = .ok (.aload_n 0, 1) := by decide +kernel
theorem dX6_endYear_5 : decode cX6_endYear 5 = .ok (.invokevirtual 374, 3) := by decide +kernel
theorem dX6_endYear_8 : decode cX6_endYear 8 = .ok (.iconst 0, 1) := by decide +kernel
theorem dX6_endYear_9 : decode cX6_endYear 9 = .ok (.istore_n 1, 1) := by decide +kernel
theorem dX6_endYear_10 : decode cX6_endYear 10 = .ok (.iload_n 1, 1) := by decide +kernel
theorem dX6_endYear_11 : decode cX6_endYear 11 = .ok (.aload_n 0, 1) := by decide +kernel
theorem dX6_endYear_12 : decode cX6_endYear 12 = .ok (.getfield 95, 3) := by decide +kernel
theorem dX6_endYear_15 : decode cX6_endYear 15 = .ok (.if_icmp .ge 52, 3) := by decide +kernel
theorem dX6_endYear_67 : decode cX6_endYear 67 = .ok (.iconst 0, 1) := by decide +kernel
theorem dX6_endYear_68 : decode cX6_endYear 68 = .ok (.istore_n 1, 1) := by decide +kernel
theorem dX6_endYear_69 : decode cX6_endYear 69 = .ok (.iload_n 1, 1) := by decide +kernel
theorem dX6_endYear_70 : decode cX6_endYear 70 = .ok (.aload_n 0, 1) := by decide +kernel
theorem dX6_endYear_71 : decode cX6_endYear 71 = .ok (.getfield 102, 3) := by decide +kernel
theorem dX6_endYear_74 : decode cX6_endYear 74 = .ok (.if_icmp .ge 18, 3) := by decide +kernel
theorem dX6_endYear_92 : decode cX6_endYear 92 = .ok (.aload_n 0, 1) := by decide +kernel
theorem dX6_endYear_93 : decode cX6_endYear 93 = .ok (.iconst 0, 1) := by decide +kernel
theorem dX6_endYear_94 : decode cX6_endYear 94 = .ok (.putfield 84, 3) := by decide +kernel
theorem dX6_endYear_97 : decode cX6_endYear 97 = .ok (.aload_n 0, 1) := by decide +kernel
theorem dX6_endYear_98 : decode cX6_endYear 98 = .ok (.iconst 0, 1) := by decide +kernel
theorem dX6_endYear_99 : decode cX6_endYear 99 = .ok (.putfield 176, 3) := by decide +kernel
theorem dX6_endYear_102 : decode cX6_endYear 102 = .ok (.aload_n 0, 1) := by decide +kernel
theorem dX6_endYear_103 : decode cX6_endYear 103 = .ok (.dup, 1) := by decide +kernel
theorem dX6_endYear_104 : decode cX6_endYear 104 = .ok (.getfield 386, 3) := by decide +kernel
theorem dX6_endYear_107 : decode cX6_endYear 107 = .ok (.iconst 1, 1) := by decide +kernel
theorem dX6_endYear_108 : decode cX6_endYear 108 = .ok (.iadd, 1) := by decide +kernel
theorem dX6_endYear_109 : decode cX6_endYear 109 = .ok (.putfield 386, 3) := by decide +kernel
theorem dX6_endYear_112 : decode cX6_endYear 112 = .ok (.aload_n 0, 1) := by decide +kernel
theorem dX6_endYear_113 : decode cX6_endYear 113 = .ok (.getfield 386, 3) := by decide +kernel
theorem dX6_endYear_116 : decode cX6_endYear 116 = .ok (.ireturn, 1) := by decide +kernel
set_option maxHeartbeats 4000000 in
set_option maxRecDepth 100000 in
theorem c_X6_endYear (l : Launch) (htr : l.stackTraces = false) (dC : Nat → ClassId) (dI : Nat → Nat → Nat) (e0 sz : Nat) (h0 : Nat) (a : Nat → Nat) : Met l yX6_endYear wsX6_endYear ({ frames := 3, cells := 0, slots := 0, locals := 68 }) (va_Pc [.ref h0] (fun U => U.heap.size = sz ∧ va_P (dC, dI) vwCl [(h0, .inr (11, zC a))] U.heap ∧ va_K (dC, dI) vwCl [] U ∧ va_D (fun _ => True) [(h0, .inr (11, zC a))] ∧ zE e0 (va_A [(h0, .inr (11, zC a))] sz) U U.heap)) (va_Qi (fun (r : Int32) (_ : Unit) => r = 1) (fun _ t => True) (va_A [(h0, .inr (11, zC a))] sz)) 0 0 (va_A [(h0, .inr (11, zC a))] sz) := by
  refine Met.ofW (cc := cX6_endYear) (maxL := 2) (ret := (some .int)) (by decide) rfl ?_
  intro p e s m args below meth c s₁ B hml hv
  obtain ⟨rfl, hsz, hP, hK, hD0, hE⟩ := hv
  have hx := B.exec
  have hb := B.bytes
  have hr := B.returns
  have hts := atoms_spec (ws := wsX6_endYear) B.pre
  have hown : s.vm.findClass RX6 = some m.cls := findClass_of_methodNamed B.named
  have hlocks := B.notSynchronized
  subst hsz
  have hD := hD0.self (sz := s.heap.size)
  generalize hAe : va_A [(h0, .inr (11, zC a))] s.heap.size = A at hD hE ⊢
  have hA : ∀ q : Nat, s.heap.size ≤ q → A q := fun q h => by rw [← hAe]; exact Or.inr h
  have hS : va_S A s.heap s.heap [] := va_S.rf
  have hl := lv_entry ([.ref h0]) (n := 2) (Nat.le_of_ble_eq_true rfl)
  rw [lg_entry_eq]
  generalize (lg_sl ([.ref h0]) ++ List.replicate (2 - (lg_sl ([.ref h0])).length) Slot.unset).toArray = ls at hl ⊢
  have hl : lv_has ls 2 [(0, .ref h0)] := hl
  refine lv_aload_n hx hb dX6_endYear_0 rfl (lv_at hl 0 rfl) ?_
  have hPc := hP.sub (ws' := [(h0, .inr (11, zC a))]) [0] rfl
  have hDc := hD.sub (ws' := [(h0, .inr (11, zC a))]) [0] (by decide) rfl
  have hKc := hK.sub (tys' := []) [] rfl
  have hFc := va_free (wc := [(h0, .inr (11, zC a))]) hD hS hA [0] rfl
  refine va_callv (va_runV (As := []) (rest := []) ⟨hx, hb, hml, hown, hts⟩ (c_X6_needNobodyOnWay l htr dC dI e0 s.heap.size h0 a) (cwV 0 hts gX6_endYear_X6_needNobodyOnWay rfl rfl rfl (by decide +kernel) ⟨Nat.le_of_ble_eq_true rfl, Nat.le_of_ble_eq_true rfl⟩) ⟨fun a U g mk q => by obtain ⟨q0, q1, qP, qK, qD⟩ := q; exact ⟨q0, q1, qP, va_K.moved (u := U) (U := U.calling g mk a) (Vm.Alike.refl U.vm) qK, qD⟩, va_recv hKc hPc (ci := 11) (q0 := 0) rfl rfl, fun U hU hW => ⟨rfl, by rw [hU], by rw [hU]; exact hPc, va_K.moved hW.alike hKc, hDc.weaken (fun _ _ _ _ => trivial)⟩⟩ rfl rfl hl.1 rfl (lv_room (Nat.le_of_ble_eq_true rfl)) dX6_endYear_1 ⟨Nat.le_of_ble_eq_true rfl, Nat.le_of_ble_eq_true rfl⟩) hS (fun q _ h => hFc q h) hFc (fun u t H1 locs ht hvm hw hB hz1 hk1 hS => ?_)
  obtain ⟨hP1, hK1, hD1⟩ := hB
  rw [ht] at hP1
  obtain ⟨hP, hD⟩ := va_join (wr := []) (w1 := [(h0, .inr (11, zC a))]) hP hD [0] [] rfl rfl (by decide) (by decide) hk1 hFc hP1 hD1
  generalize H1 = H at hP hS ⊢
  have hP : va_P (dC, dI) vwCl [(h0, .inr (11, zC a))] H := hP
  have hD : va_D A [(h0, .inr (11, zC a))] := hD
  refine lv_aload_n hx hb dX6_endYear_4 rfl (lv_at hl 0 rfl) ?_
  have hPc := hP.sub (ws' := [(h0, .inr (11, zC a))]) [0] rfl
  have hDc := hD.sub (ws' := [(h0, .inr (11, zC a))]) [0] (by decide) rfl
  have hKc := hK.sub (tys' := []) [] rfl
  have hFc := va_free (wc := [(h0, .inr (11, zC a))]) hD hS hA [0] rfl
  refine va_callv (va_runV (As := []) (rest := []) ⟨hx, hb, hml, hown, hts⟩ (c_X6_shareOut l htr dC dI e0 H.size h0 a) (cwV 0 hts gX6_endYear_X6_shareOut rfl rfl rfl (by decide +kernel) ⟨Nat.le_of_ble_eq_true rfl, Nat.le_of_ble_eq_true rfl⟩) ⟨fun a U g mk q => by obtain ⟨q0, q1, qP, qK, qD⟩ := q; exact ⟨q0, q1, qP, va_K.moved (u := U) (U := U.calling g mk a) (Vm.Alike.refl U.vm) qK, qD⟩, va_recv hKc hPc (ci := 11) (q0 := 0) rfl rfl, fun U hU hW => ⟨rfl, by rw [hU], by rw [hU]; exact hPc, va_K.moved hW.alike hKc, hDc.weaken (fun _ _ _ _ => trivial)⟩⟩ rfl rfl hl.1 rfl (lv_room (Nat.le_of_ble_eq_true rfl)) dX6_endYear_5 ⟨Nat.le_of_ble_eq_true rfl, Nat.le_of_ble_eq_true rfl⟩) hS (fun q _ h => hFc q h) hFc (fun u t H1 locs ht hvm hw hB hz1 hk1 hS => ?_)
  obtain ⟨hP1, hK1, hD1⟩ := hB
  rw [ht] at hP1
  obtain ⟨hP, hD⟩ := va_join (wr := []) (w1 := [(h0, .inr (11, zC a))]) hP hD [0] [] rfl rfl (by decide) (by decide) hk1 hFc hP1 hD1
  generalize H1 = H at hP hS ⊢
  have hP : va_P (dC, dI) vwCl [(h0, .inr (11, zC a))] H := hP
  have hD : va_D A [(h0, .inr (11, zC a))] := hD
  refine lv_iconst (v := 0) hx hb dX6_endYear_8 (by decide) ?_
  refine lv_istore_n (lv' := [(1, .int 0), (0, .ref h0)]) hx hb dX6_endYear_9 rfl hl (by decide) rfl (fun ls hl => ?_)
  refine lv_iload_n hx hb dX6_endYear_10 rfl (lv_at hl 0 rfl) ?_
  refine lv_aload_n hx hb dX6_endYear_11 rfl (lv_at hl 1 rfl) ?_
  refine va_get (D := (dC, dI)) (ci := 11) (v := .int 0) (C := RX6) (T := TX6) (N := 16) hx hb hts (by decide +kernel) hown hK hP 0 rfl rfl 7 (by decide) (hts (.fieldLink RX6 95 "Gangline" "teamCount" "I") (by decide +kernel)) (fun _ h9 => h9) rfl dX6_endYear_12 ?_
  refine lv_icmp_ge (tgt := 67) hx hb dX6_endYear_15 (by decide) (fun _ => ?_) (fun c1 => absurd (by decide) c1)
  refine lv_iconst (v := 0) hx hb dX6_endYear_67 (by decide) ?_
  refine lv_istore_n (lv' := [(1, .int 0), (0, .ref h0)]) hx hb dX6_endYear_68 rfl hl (by decide) rfl (fun ls hl => ?_)
  refine lv_iload_n hx hb dX6_endYear_69 rfl (lv_at hl 0 rfl) ?_
  refine lv_aload_n hx hb dX6_endYear_70 rfl (lv_at hl 1 rfl) ?_
  refine va_get (D := (dC, dI)) (ci := 11) (v := .int 0) (C := RX6) (T := TX6) (N := 16) hx hb hts (by decide +kernel) hown hK hP 0 rfl rfl 5 (by decide) (hts (.fieldLink RX6 102 "Gangline" "dogCount" "I") (by decide +kernel)) (fun _ h9 => h9) rfl dX6_endYear_71 ?_
  refine lv_icmp_ge (tgt := 92) hx hb dX6_endYear_74 (by decide) (fun _ => ?_) (fun c2 => absurd (by decide) c2)
  refine lv_aload_n hx hb dX6_endYear_92 rfl (lv_at hl 1 rfl) ?_
  refine lv_iconst (v := 0) hx hb dX6_endYear_93 (by decide) ?_
  refine va_put (D := (dC, dI)) (ci := 11) (v := .int 0) (ty := .int) (C := RX6) (T := TX6) (N := 16) hx hb hts (by decide +kernel) tyX6 tyX6_ok nmX6 hown hK hP hD hS 0 rfl rfl 3 (by decide) (hts (.fieldLink RX6 84 "Gangline" "stormCount" "I") (by decide +kernel)) (fun _ h9 => h9) rfl (by decide +kernel) rfl rfl (Nat.le_of_ble_eq_true rfl) dX6_endYear_94 (fun H locs hP hD hS => ?_)
  have hP : va_P (dC, dI) vwCl [(h0, .inr (11, [.ref (a 0), .int 0, .ref (a 1), .int 0, .ref (a 2), .int 0, .ref (a 3), .int 0, .long 0, .int 0, .int 0, .ref (a 4), .ref (a 5), .ref (a 6), .ref (a 7), .int 0]))] H := hP
  have hD : va_D A [(h0, .inr (11, [.ref (a 0), .int 0, .ref (a 1), .int 0, .ref (a 2), .int 0, .ref (a 3), .int 0, .long 0, .int 0, .int 0, .ref (a 4), .ref (a 5), .ref (a 6), .ref (a 7), .int 0]))] := hD
  refine lv_aload_n hx hb dX6_endYear_97 rfl (lv_at hl 1 rfl) ?_
  refine lv_iconst (v := 0) hx hb dX6_endYear_98 (by decide) ?_
  refine va_put (D := (dC, dI)) (ci := 11) (v := .int 0) (ty := .int) (C := RX6) (T := TX6) (N := 16) hx hb hts (by decide +kernel) tyX6 tyX6_ok nmX6 hown hK hP hD hS 0 rfl rfl 10 (by decide) (hts (.fieldLink RX6 176 "Gangline" "dogsBegun" "I") (by decide +kernel)) (fun _ h9 => h9) rfl (by decide +kernel) rfl rfl (Nat.le_of_ble_eq_true rfl) dX6_endYear_99 (fun H locs hP hD hS => ?_)
  have hP : va_P (dC, dI) vwCl [(h0, .inr (11, [.ref (a 0), .int 0, .ref (a 1), .int 0, .ref (a 2), .int 0, .ref (a 3), .int 0, .long 0, .int 0, .int 0, .ref (a 4), .ref (a 5), .ref (a 6), .ref (a 7), .int 0]))] H := hP
  have hD : va_D A [(h0, .inr (11, [.ref (a 0), .int 0, .ref (a 1), .int 0, .ref (a 2), .int 0, .ref (a 3), .int 0, .long 0, .int 0, .int 0, .ref (a 4), .ref (a 5), .ref (a 6), .ref (a 7), .int 0]))] := hD
  refine lv_aload_n hx hb dX6_endYear_102 rfl (lv_at hl 1 rfl) ?_
  refine lv_dup hx hb dX6_endYear_103 rfl ?_
  refine va_get (D := (dC, dI)) (ci := 11) (v := .int 0) (C := RX6) (T := TX6) (N := 16) hx hb hts (by decide +kernel) hown hK hP 0 rfl rfl 9 (by decide) (hts (.fieldLink RX6 386 "Gangline" "year" "I") (by decide +kernel)) (fun _ h9 => h9) rfl dX6_endYear_104 ?_
  refine lv_iconst (v := 1) hx hb dX6_endYear_107 (by decide) ?_
  refine lv_iadd hx hb dX6_endYear_108 ?_
  refine lv_topi (fun y3 e4 => ?_)
  obtain rfl : y3 = 1 := e4.trans (by decide)
  refine va_put (D := (dC, dI)) (ci := 11) (v := .int 1) (ty := .int) (C := RX6) (T := TX6) (N := 16) hx hb hts (by decide +kernel) tyX6 tyX6_ok nmX6 hown hK hP hD hS 0 rfl rfl 9 (by decide) (hts (.fieldLink RX6 386 "Gangline" "year" "I") (by decide +kernel)) (fun _ h9 => h9) rfl (by decide +kernel) rfl rfl (Nat.le_of_ble_eq_true rfl) dX6_endYear_109 (fun H locs hP hD hS => ?_)
  have hP : va_P (dC, dI) vwCl [(h0, .inr (11, [.ref (a 0), .int 0, .ref (a 1), .int 0, .ref (a 2), .int 0, .ref (a 3), .int 0, .long 0, .int 1, .int 0, .ref (a 4), .ref (a 5), .ref (a 6), .ref (a 7), .int 0]))] H := hP
  have hD : va_D A [(h0, .inr (11, [.ref (a 0), .int 0, .ref (a 1), .int 0, .ref (a 2), .int 0, .ref (a 3), .int 0, .long 0, .int 1, .int 0, .ref (a 4), .ref (a 5), .ref (a 6), .ref (a 7), .int 0]))] := hD
  refine lv_aload_n hx hb dX6_endYear_112 rfl (lv_at hl 1 rfl) ?_
  refine va_get (D := (dC, dI)) (ci := 11) (v := .int 1) (C := RX6) (T := TX6) (N := 16) hx hb hts (by decide +kernel) hown hK hP 0 rfl rfl 9 (by decide) (hts (.fieldLink RX6 386 "Gangline" "year" "I") (by decide +kernel)) (fun _ h9 => h9) rfl dX6_endYear_113 ?_
  exact W.iret (v := 1) hx hb hr (fun t ht hW => ⟨⟨1, (), rfl, rfl, trivial⟩, hS.F ht⟩) hS.2.2 dX6_endYear_116

theorem dX6_isTrue_0 : decode cX6_isTrue 0 = .ok (.iconst 0, 1) := by decide +kernel
theorem dX6_isTrue_1 : decode cX6_isTrue 1 = .ok (.istore_n 1, 1) := by decide +kernel
theorem dX6_isTrue_2 : decode cX6_isTrue 2 = .ok (.iload_n 1, 1) := by decide +kernel
theorem dX6_isTrue_3 : decode cX6_isTrue 3 = .ok (.aload_n 0, 1) := by decide +kernel
theorem dX6_isTrue_4 : decode cX6_isTrue 4 = .ok (.getfield 102, 3) := by decide +kernel
theorem dX6_isTrue_7 : decode cX6_isTrue 7 = .ok (.if_icmp .ge 37, 3) := by decide +kernel
theorem dX6_isTrue_44 : decode cX6_isTrue 44 = .ok (.iconst 0, 1) := by decide +kernel
theorem dX6_isTrue_45 : decode cX6_isTrue 45 = .ok (.istore_n 1, 1) := by decide +kernel
theorem dX6_isTrue_46 : decode cX6_isTrue 46 = .ok (.iload_n 1, 1) := by decide +kernel
theorem dX6_isTrue_47 : decode cX6_isTrue 47 = .ok (.aload_n 0, 1) := by decide +kernel
theorem dX6_isTrue_48 : decode cX6_isTrue 48 = .ok (.getfield 95, 3) := by decide +kernel
theorem dX6_isTrue_51 : decode cX6_isTrue 51 = .ok (.if_icmp .ge 74, 3) := by decide +kernel
theorem dX6_isTrue_125 : decode cX6_isTrue 125 = .ok (.iconst 1, 1) := by decide +kernel
theorem dX6_isTrue_126 : decode cX6_isTrue 126 = .ok (.ireturn, 1) := by decide +kernel
set_option maxHeartbeats 4000000 in
set_option maxRecDepth 100000 in
theorem c_X6_isTrue (l : Launch) (htr : l.stackTraces = false) (dC : Nat → ClassId) (dI : Nat → Nat → Nat) (e0 sz : Nat) (h0 : Nat) (a : Nat → Nat) : Met l yX6_isTrue wsX6_isTrue ({ frames := 0, cells := 0, slots := 0, locals := 0 }) (va_Pc [.ref h0] (fun U => U.heap.size = sz ∧ va_P (dC, dI) vwCl [(h0, .inr (11, zC a))] U.heap ∧ va_K (dC, dI) vwCl [] U ∧ va_D (fun _ => True) [(h0, .inr (11, zC a))] ∧ zE e0 (va_A [(h0, .inr (11, zC a))] sz) U U.heap)) (va_Qi (fun (r : Int32) (_ : Unit) => r = 1) (fun _ t => True) (va_A [(h0, .inr (11, zC a))] sz)) 0 0 (va_A [(h0, .inr (11, zC a))] sz) := by
  refine Met.ofW (cc := cX6_isTrue) (maxL := 3) (ret := (some .boolean)) (by decide) rfl ?_
  intro p e s m args below meth c s₁ B hml hv
  obtain ⟨rfl, hsz, hP, hK, hD0, hE⟩ := hv
  have hx := B.exec
  have hb := B.bytes
  have hr := B.returns
  have hts := atoms_spec (ws := wsX6_isTrue) B.pre
  have hown : s.vm.findClass RX6 = some m.cls := findClass_of_methodNamed B.named
  have hlocks := B.notSynchronized
  subst hsz
  have hD := hD0.self (sz := s.heap.size)
  generalize hAe : va_A [(h0, .inr (11, zC a))] s.heap.size = A at hD hE ⊢
  have hA : ∀ q : Nat, s.heap.size ≤ q → A q := fun q h => by rw [← hAe]; exact Or.inr h
  have hS : va_S A s.heap s.heap [] := va_S.rf
  have hl := lv_entry ([.ref h0]) (n := 3) (Nat.le_of_ble_eq_true rfl)
  rw [lg_entry_eq]
  generalize (lg_sl ([.ref h0]) ++ List.replicate (3 - (lg_sl ([.ref h0])).length) Slot.unset).toArray = ls at hl ⊢
  have hl : lv_has ls 3 [(0, .ref h0)] := hl
  refine lv_iconst (v := 0) hx hb dX6_isTrue_0 (by decide) ?_
  refine lv_istore_n (lv' := [(1, .int 0), (0, .ref h0)]) hx hb dX6_isTrue_1 rfl hl (by decide) rfl (fun ls hl => ?_)
  refine lv_iload_n hx hb dX6_isTrue_2 rfl (lv_at hl 0 rfl) ?_
  refine lv_aload_n hx hb dX6_isTrue_3 rfl (lv_at hl 1 rfl) ?_
  refine va_get (D := (dC, dI)) (ci := 11) (v := .int 0) (C := RX6) (T := TX6) (N := 16) hx hb hts (by decide +kernel) hown hK hP 0 rfl rfl 5 (by decide) (hts (.fieldLink RX6 102 "Gangline" "dogCount" "I") (by decide +kernel)) (fun _ h9 => h9) rfl dX6_isTrue_4 ?_
  refine lv_icmp_ge (tgt := 44) hx hb dX6_isTrue_7 (by decide) (fun _ => ?_) (fun c1 => absurd (by decide) c1)
  refine lv_iconst (v := 0) hx hb dX6_isTrue_44 (by decide) ?_
  refine lv_istore_n (lv' := [(1, .int 0), (0, .ref h0)]) hx hb dX6_isTrue_45 rfl hl (by decide) rfl (fun ls hl => ?_)
  refine lv_iload_n hx hb dX6_isTrue_46 rfl (lv_at hl 0 rfl) ?_
  refine lv_aload_n hx hb dX6_isTrue_47 rfl (lv_at hl 1 rfl) ?_
  refine va_get (D := (dC, dI)) (ci := 11) (v := .int 0) (C := RX6) (T := TX6) (N := 16) hx hb hts (by decide +kernel) hown hK hP 0 rfl rfl 7 (by decide) (hts (.fieldLink RX6 95 "Gangline" "teamCount" "I") (by decide +kernel)) (fun _ h9 => h9) rfl dX6_isTrue_48 ?_
  refine lv_icmp_ge (tgt := 125) hx hb dX6_isTrue_51 (by decide) (fun _ => ?_) (fun c2 => absurd (by decide) c2)
  refine lv_iconst (v := 1) hx hb dX6_isTrue_125 (by decide) ?_
  exact W.zret (v := 1) hx hb hr (by decide) (fun t ht hW => ⟨⟨1, (), rfl, rfl, trivial⟩, hS.F ht⟩) hS.2.2 dX6_isTrue_126

theorem dX6_dogsInRace_0 : decode cX6_dogsInRace 0 = .ok (.iconst 0, 1) := by decide +kernel
theorem dX6_dogsInRace_1 : decode cX6_dogsInRace 1 = .ok (.istore_n 1, 1) := by decide +kernel
theorem dX6_dogsInRace_2 : decode cX6_dogsInRace 2 = .ok (.iconst 0, 1) := by decide +kernel
theorem dX6_dogsInRace_3 : decode cX6_dogsInRace 3 = .ok (.istore_n 2, 1) := by decide +kernel
theorem dX6_dogsInRace_4 : decode cX6_dogsInRace 4 = .ok (.iload_n 2, 1) := by decide +kernel
theorem dX6_dogsInRace_5 : decode cX6_dogsInRace 5 = .ok (.aload_n 0, 1) := by decide +kernel
theorem dX6_dogsInRace_6 : decode cX6_dogsInRace 6 = .ok (.getfield 102, 3) := by decide +kernel
theorem dX6_dogsInRace_9 : decode cX6_dogsInRace 9 = .ok (.if_icmp .ge 26, 3) := by decide +kernel
theorem dX6_dogsInRace_35 : decode cX6_dogsInRace 35 = .ok (.iload_n 1, 1) := by decide +kernel
theorem dX6_dogsInRace_36 : decode cX6_dogsInRace 36 = .ok (.ireturn, 1) := by decide +kernel
set_option maxHeartbeats 4000000 in
set_option maxRecDepth 100000 in
theorem c_X6_dogsInRace (l : Launch) (htr : l.stackTraces = false) (dC : Nat → ClassId) (dI : Nat → Nat → Nat) (e0 sz : Nat) (h0 : Nat) (a : Nat → Nat) : Met l yX6_dogsInRace wsX6_dogsInRace ({ frames := 0, cells := 0, slots := 0, locals := 0 }) (va_Pc [.ref h0] (fun U => U.heap.size = sz ∧ va_P (dC, dI) vwCl [(h0, .inr (11, zC a))] U.heap ∧ va_K (dC, dI) vwCl [] U ∧ va_D (fun _ => True) [(h0, .inr (11, zC a))])) (va_Qi (fun (r : Int32) (_ : Unit) => r = 0) (fun _ t => va_P (dC, dI) vwCl [(h0, .inr (11, zC a))] t.heap ∧ va_K (dC, dI) vwCl [] t ∧ va_D (va_A [(h0, .inr (11, zC a))] sz) [(h0, .inr (11, zC a))]) (va_A [(h0, .inr (11, zC a))] sz)) 0 0 (va_A [(h0, .inr (11, zC a))] sz) := by
  refine Met.ofW (cc := cX6_dogsInRace) (maxL := 3) (ret := (some .int)) (by decide) rfl ?_
  intro p e s m args below meth c s₁ B hml hv
  obtain ⟨rfl, hsz, hP, hK, hD0⟩ := hv
  have hx := B.exec
  have hb := B.bytes
  have hr := B.returns
  have hts := atoms_spec (ws := wsX6_dogsInRace) B.pre
  have hown : s.vm.findClass RX6 = some m.cls := findClass_of_methodNamed B.named
  have hlocks := B.notSynchronized
  subst hsz
  have hD := hD0.self (sz := s.heap.size)
  generalize hAe : va_A [(h0, .inr (11, zC a))] s.heap.size = A at hD ⊢
  have hA : ∀ q : Nat, s.heap.size ≤ q → A q := fun q h => by rw [← hAe]; exact Or.inr h
  have hS : va_S A s.heap s.heap [] := va_S.rf
  have hl := lv_entry ([.ref h0]) (n := 3) (Nat.le_of_ble_eq_true rfl)
  rw [lg_entry_eq]
  generalize (lg_sl ([.ref h0]) ++ List.replicate (3 - (lg_sl ([.ref h0])).length) Slot.unset).toArray = ls at hl ⊢
  have hl : lv_has ls 3 [(0, .ref h0)] := hl
  refine lv_iconst (v := 0) hx hb dX6_dogsInRace_0 (by decide) ?_
  refine lv_istore_n (lv' := [(1, .int 0), (0, .ref h0)]) hx hb dX6_dogsInRace_1 rfl hl (by decide) rfl (fun ls hl => ?_)
  refine lv_iconst (v := 0) hx hb dX6_dogsInRace_2 (by decide) ?_
  refine lv_istore_n (lv' := [(2, .int 0), (1, .int 0), (0, .ref h0)]) hx hb dX6_dogsInRace_3 rfl hl (by decide) rfl (fun ls hl => ?_)
  refine lv_iload_n hx hb dX6_dogsInRace_4 rfl (lv_at hl 0 rfl) ?_
  refine lv_aload_n hx hb dX6_dogsInRace_5 rfl (lv_at hl 2 rfl) ?_
  refine va_get (D := (dC, dI)) (ci := 11) (v := .int 0) (C := RX6) (T := TX6) (N := 16) hx hb hts (by decide +kernel) hown hK hP 0 rfl rfl 5 (by decide) (hts (.fieldLink RX6 102 "Gangline" "dogCount" "I") (by decide +kernel)) (fun _ h9 => h9) rfl dX6_dogsInRace_6 ?_
  refine lv_icmp_ge (tgt := 35) hx hb dX6_dogsInRace_9 (by decide) (fun _ => ?_) (fun c1 => absurd (by decide) c1)
  refine lv_iload_n hx hb dX6_dogsInRace_35 rfl (lv_at hl 1 rfl) ?_
  have hP9 := hP.sub (ws' := [(h0, .inr (11, zC a))]) [0] rfl
  have hD9 := hD.sub (ws' := [(h0, .inr (11, zC a))]) [0] (by decide) rfl
  have hK9 := hK.sub (tys' := []) [] rfl
  exact W.iret (v := 0) hx hb hr (fun t ht hW => ⟨⟨0, (), rfl, rfl, ⟨by rw [ht]; exact hP9, va_K.moved hW.alike hK9, hD9⟩⟩, hS.F ht⟩) hS.2.2 dX6_dogsInRace_36

theorem dX6_inShare_0 : decode cX6_inShare 0 = .ok (.aload_n 0, 1) := by decide +kernel
theorem dX6_inShare_1 : decode cX6_inShare 1 = .ok (.getfield 176, 3) := by decide +kernel
theorem dX6_inShare_4 : decode cX6_inShare 4 = .ok (.ifCond .gt 14, 3) := by decide +kernel
theorem dX6_inShare_7 : decode cX6_inShare 7 = .ok (.new 426, 3) := by decide +kernel
theorem dX6_inShare_10 : decode cX6_inShare 10 = .ok (.dup, 1) := by decide +kernel
theorem dX6_inShare_11 : decode cX6_inShare 11 = .ok (.ldc_w 428, 3) := by decide +kernel
theorem dX6_inShare_14 : decode cX6_inShare 14 = .ok (.invokespecial 430, 3) := by decide +kernel
theorem dX6_inShare_17 : decode cX6_inShare 17 = .ok (.athrow, 1) := by decide +kernel
set_option maxHeartbeats 4000000 in
set_option maxRecDepth 100000 in
theorem c_X6_inShare (l : Launch) (htr : l.stackTraces = false) (dC : Nat → ClassId) (dI : Nat → Nat → Nat) (e0 sz : Nat) (h0 : Nat) (a : Nat → Nat) : vx_Met l yX6_inShare wsX6_inShare ({ frames := 6, cells := 1, slots := 6, locals := 90 }) (va_Pc [.ref h0] (fun U => U.heap.size = sz ∧ va_P (dC, dI) vwCl [(h0, .inr (11, zC a))] U.heap ∧ va_K (dC, dI) vwCl [] U ∧ va_D (fun _ => True) [(h0, .inr (11, zC a))] ∧ zE e0 (va_A [(h0, .inr (11, zC a))] sz) U U.heap)) (va_Qf (fun (r : UInt32) (_ : Unit) => False) (fun _ t => True) (va_A [(h0, .inr (11, zC a))] sz)) (zX zR (va_A [(h0, .inr (11, zC a))] sz)) 1 6 (va_A [(h0, .inr (11, zC a))] sz) := by
  refine vx_ofW (cc := cX6_inShare) (maxL := 1) (ret := (some .float)) (by decide) rfl ?_
  intro p e s m args below meth c s₁ B hml hxt hv
  obtain ⟨rfl, hsz, hP, hK, hD0, hE⟩ := hv
  have hx := B.exec
  have hb := B.bytes
  have hr := B.returns
  have hts := atoms_spec (ws := wsX6_inShare) B.pre
  have hown : s.vm.findClass RX6 = some m.cls := findClass_of_methodNamed B.named
  have hlocks := B.notSynchronized
  subst hsz
  have hD := hD0.self (sz := s.heap.size)
  generalize hAe : va_A [(h0, .inr (11, zC a))] s.heap.size = A at hD hE ⊢
  have hA : ∀ q : Nat, s.heap.size ≤ q → A q := fun q h => by rw [← hAe]; exact Or.inr h
  have hS : va_S A s.heap s.heap [] := va_S.rf
  have hl := lv_entry ([.ref h0]) (n := 1) (Nat.le_of_ble_eq_true rfl)
  rw [lg_entry_eq]
  generalize (lg_sl ([.ref h0]) ++ List.replicate (1 - (lg_sl ([.ref h0])).length) Slot.unset).toArray = ls at hl ⊢
  have hl : lv_has ls 1 [(0, .ref h0)] := hl
  refine lv_aload_n hx hb dX6_inShare_0 rfl (lv_at hl 0 rfl) ?_
  refine va_get (D := (dC, dI)) (ci := 11) (v := .int 0) (C := RX6) (T := TX6) (N := 16) hx hb hts (by decide +kernel) hown hK hP 0 rfl rfl 10 (by decide) (hts (.fieldLink RX6 176 "Gangline" "dogsBegun" "I") (by decide +kernel)) (fun _ h9 => h9) rfl dX6_inShare_1 ?_
  refine lv_if_gt (tgt := 18) hx hb dX6_inShare_4 (by decide) (fun c1 => absurd c1 (by decide)) (fun _ => ?_)
  obtain ⟨hU, hN, -, -, hV, -⟩ := id hE
  obtain ⟨sa, hstr⟩ := zV_T428 hV
  have hat := vx_hat (fun w h => hts w (List.mem_cons_of_mem _ (List.mem_append_right _ h))) zx_bzR (zB.of hV (zV_C_zR hV))
  exact vx_throwSW hx hb htr hown (by decide +kernel) (by decide +kernel) (hts (.classLink RX6 426 zR) (by decide +kernel)) (hts (.initialized zR) (by decide +kernel)) hstr hat zx_gzR hU hN hS (hl.1.trans hml.symm) dX6_inShare_7 dX6_inShare_10 dX6_inShare_11 dX6_inShare_14 dX6_inShare_17 (fun x hx9 => absurd (hxt x hx9) id) (Nat.le_of_ble_eq_true rfl) (Nat.le_of_ble_eq_true rfl) (Nat.le_of_ble_eq_true rfl) (Nat.le_of_ble_eq_true rfl) hlocks (fun t _ h1 h2 => zX.of hS h1 h2) hS.2.2 (Nat.le_of_ble_eq_true rfl) (Nat.le_of_ble_eq_true rfl)

set_option maxRecDepth 20000 in
theorem ggX6_meanFeet_X6_dogsInRace : GoodIn wsX6_meanFeet wsX6_dogsInRace := goodIn_r _ [11, 3, 4, 5, 12, 13, 14, 15, 16, 17, 18, 19, 20, 21, 22, 23, 24, 25, 26, 27, 28, 29, 30, 31, 32, 33, 34, 35, 36, 37, 38, 39, 40, 41] (by decide +kernel) (by decide +kernel)
set_option maxRecDepth 20000 in
theorem gX6_meanFeet_X6_dogsInRace : GoodIn wsX6_meanFeet (wsV RX6 431 RX6 yX6_dogsInRace wsX6_dogsInRace) := goodIn_app (goodIn_of _ (by decide +kernel)) ggX6_meanFeet_X6_dogsInRace
theorem dX6_meanFeet_0 : decode cX6_meanFeet 0 = .ok (.aload_n 0, 1) := by decide +kernel
theorem dX6_meanFeet_1 : decode cX6_meanFeet 1 = .ok (.invokevirtual 431, 3) := by decide +kernel
theorem dX6_meanFeet_4 : decode cX6_meanFeet 4 = .ok (.istore_n 1, 1) := by decide +kernel
theorem dX6_meanFeet_5 : decode cX6_meanFeet 5 = .ok (.iload_n 1, 1) := by decide +kernel
theorem dX6_meanFeet_6 : decode cX6_meanFeet 6 = .ok (.ifCond .gt 14, 3) := by decide +kernel
theorem dX6_meanFeet_9 : decode cX6_meanFeet 9 = .ok (.new 426, 3) := by decide +kernel
theorem dX6_meanFeet_12 : decode cX6_meanFeet 12 = .ok (.dup, 1) := by decide +kernel
theorem dX6_meanFeet_13 : decode cX6_meanFeet 13 = .ok (.ldc_w 434, 3) := by decide +kernel
theorem dX6_meanFeet_16 : decode cX6_meanFeet 16 = .ok (.invokespecial 430, 3) := by decide +kernel
theorem dX6_meanFeet_19 : decode cX6_meanFeet 19 = .ok (.athrow, 1) := by decide +kernel
set_option maxHeartbeats 4000000 in
set_option maxRecDepth 100000 in
theorem c_X6_meanFeet (l : Launch) (htr : l.stackTraces = false) (dC : Nat → ClassId) (dI : Nat → Nat → Nat) (e0 sz : Nat) (h0 : Nat) (a : Nat → Nat) : vx_Met l yX6_meanFeet wsX6_meanFeet ({ frames := 6, cells := 1, slots := 6, locals := 90 }) (va_Pc [.ref h0] (fun U => U.heap.size = sz ∧ va_P (dC, dI) vwCl [(h0, .inr (11, zC a))] U.heap ∧ va_K (dC, dI) vwCl [] U ∧ va_D (fun _ => True) [(h0, .inr (11, zC a))] ∧ zE e0 (va_A [(h0, .inr (11, zC a))] sz) U U.heap)) (va_Qd (fun (r : UInt64) (_ : Unit) => False) (fun _ t => True) (va_A [(h0, .inr (11, zC a))] sz)) (zX zR (va_A [(h0, .inr (11, zC a))] sz)) 1 6 (va_A [(h0, .inr (11, zC a))] sz) := by
  refine vx_ofW (cc := cX6_meanFeet) (maxL := 4) (ret := (some .double)) (by decide) rfl ?_
  intro p e s m args below meth c s₁ B hml hxt hv
  obtain ⟨rfl, hsz, hP, hK, hD0, hE⟩ := hv
  have hx := B.exec
  have hb := B.bytes
  have hr := B.returns
  have hts := atoms_spec (ws := wsX6_meanFeet) B.pre
  have hown : s.vm.findClass RX6 = some m.cls := findClass_of_methodNamed B.named
  have hlocks := B.notSynchronized
  subst hsz
  have hD := hD0.self (sz := s.heap.size)
  generalize hAe : va_A [(h0, .inr (11, zC a))] s.heap.size = A at hD hE ⊢
  have hA : ∀ q : Nat, s.heap.size ≤ q → A q := fun q h => by rw [← hAe]; exact Or.inr h
  have hS : va_S A s.heap s.heap [] := va_S.rf
  have hl := lv_entry ([.ref h0]) (n := 4) (Nat.le_of_ble_eq_true rfl)
  rw [lg_entry_eq]
  generalize (lg_sl ([.ref h0]) ++ List.replicate (4 - (lg_sl ([.ref h0])).length) Slot.unset).toArray = ls at hl ⊢
  have hl : lv_has ls 4 [(0, .ref h0)] := hl
  refine lv_aload_n hx hb dX6_meanFeet_0 rfl (lv_at hl 0 rfl) ?_
  have hPc := hP.sub (ws' := [(h0, .inr (11, zC a))]) [0] rfl
  have hDc := hD.sub (ws' := [(h0, .inr (11, zC a))]) [0] (by decide) rfl
  have hKc := hK.sub (tys' := []) [] rfl
  have hFc := va_free (wc := [(h0, .inr (11, zC a))]) hD hS hA [0] rfl
  refine va_calli (va_runV (As := []) (rest := []) ⟨hx, hb, hml, hown, hts⟩ (c_X6_dogsInRace l htr dC dI e0 s.heap.size h0 a) (cwV 0 hts gX6_meanFeet_X6_dogsInRace rfl rfl rfl (by decide +kernel) ⟨Nat.le_of_ble_eq_true rfl, Nat.le_of_ble_eq_true rfl⟩) ⟨fun a U g mk q => by obtain ⟨q0, q1, qP, qK, qD⟩ := q; exact ⟨q0, q1, qP, va_K.moved (u := U) (U := U.calling g mk a) (Vm.Alike.refl U.vm) qK, qD⟩, va_recv hKc hPc (ci := 11) (q0 := 0) rfl rfl, fun U hU hW => ⟨rfl, by rw [hU], by rw [hU]; exact hPc, va_K.moved hW.alike hKc, hDc.weaken (fun _ _ _ _ => trivial)⟩⟩ rfl rfl hl.1 rfl (lv_room (Nat.le_of_ble_eq_true rfl)) dX6_meanFeet_1 ⟨Nat.le_of_ble_eq_true rfl, Nat.le_of_ble_eq_true rfl⟩) hS (fun q _ h => hFc q h) hFc (fun r1 u t H1 locs ht hvm hw hB hz1 hk1 hS => ?_)
  obtain ⟨hP1, hK1, hD1⟩ := hB
  rw [ht] at hP1
  obtain ⟨hP, hD⟩ := va_join (wr := []) (w1 := [(h0, .inr (11, zC a))]) hP hD [0] [] rfl rfl (by decide) (by decide) hk1 hFc hP1 hD1
  generalize H1 = H at hP hS ⊢
  have hP : va_P (dC, dI) vwCl [(h0, .inr (11, zC a))] H := hP
  have hD : va_D A [(h0, .inr (11, zC a))] := hD
  obtain rfl : r1 = 0 := hw
  refine lv_istore_n (lv' := [(1, .int 0), (0, .ref h0)]) hx hb dX6_meanFeet_4 rfl hl (by decide) rfl (fun ls hl => ?_)
  refine lv_iload_n hx hb dX6_meanFeet_5 rfl (lv_at hl 0 rfl) ?_
  refine lv_if_gt (tgt := 20) hx hb dX6_meanFeet_6 (by decide) (fun c2 => absurd c2 (by decide)) (fun _ => ?_)
  obtain ⟨hU, hN, -, -, hV, -⟩ := id hE
  obtain ⟨sa, hstr⟩ := zV_T434 hV
  have hat := vx_hat (fun w h => hts w (List.mem_cons_of_mem _ (List.mem_append_right _ h))) zx_bzR (zB.of hV (zV_C_zR hV))
  exact vx_throwSW hx hb htr hown (by decide +kernel) (by decide +kernel) (hts (.classLink RX6 426 zR) (by decide +kernel)) (hts (.initialized zR) (by decide +kernel)) hstr hat zx_gzR hU hN hS (hl.1.trans hml.symm) dX6_meanFeet_9 dX6_meanFeet_12 dX6_meanFeet_13 dX6_meanFeet_16 dX6_meanFeet_19 (fun x hx9 => absurd (hxt x hx9) id) (Nat.le_of_ble_eq_true rfl) (Nat.le_of_ble_eq_true rfl) (Nat.le_of_ble_eq_true rfl) (Nat.le_of_ble_eq_true rfl) hlocks (fun t _ h1 h2 => zX.of hS h1 h2) hS.2.2 (Nat.le_of_ble_eq_true rfl) (Nat.le_of_ble_eq_true rfl)

set_option maxRecDepth 20000 in
theorem ggX6_standing_X6_teamAt : GoodIn wsX6_standing wsX6_teamAt := goodIn_r _ [7, 8, 9, 10, 11, 12, 6, 13, 14, 15, 16, 17, 18, 19, 20, 21, 22, 23, 24, 25, 26, 27, 28, 29, 30, 31, 32, 33, 34, 35, 36, 37, 38, 39, 40, 41, 42, 43, 44, 45, 46, 47, 48, 49, 50, 51, 52, 53, 54, 55, 56, 57, 58, 59, 60, 61, 62, 63, 64, 65, 66, 67, 68, 69, 70, 71, 72, 73, 74, 75, 76, 77, 78, 79, 80, 81, 82, 83, 84, 85, 86, 87, 88, 89, 90, 91, 92, 93, 94, 95, 96, 97] (by decide +kernel) (by decide +kernel)
set_option maxRecDepth 20000 in
theorem gX6_standing_X6_teamAt : GoodIn wsX6_standing (wsV RX6 357 RX6 yX6_teamAt wsX6_teamAt) := goodIn_app (goodIn_of _ (by decide +kernel)) ggX6_standing_X6_teamAt
theorem dX6_standing_0 : decode cX6_standing 0 = .ok (.aload_n 0, 1) := by decide +kernel
theorem dX6_standing_1 : decode cX6_standing 1 = .ok (.iload_n 1, 1) := by decide +kernel
theorem dX6_standing_2 : decode cX6_standing 2 = .ok (.invokevirtual 357, 3) := by decide +kernel
theorem dX6_standing_5 : decode cX6_standing 5 = .ok (.istore_n 2, 1) := by decide +kernel
theorem dX6_standing_6 : decode cX6_standing 6 = .ok (.iload_n 2, 1) := by decide +kernel
theorem dX6_standing_7 : decode cX6_standing 7 = .ok (.iconst (-1), 1) := by decide +kernel
theorem dX6_standing_8 : decode cX6_standing 8 = .ok (.if_icmp .ne 14, 3) := by decide +kernel
theorem dX6_standing_11 : decode cX6_standing 11 = .ok (.new 361, 3) := by decide +kernel
theorem dX6_standing_14 : decode cX6_standing 14 = .ok (.dup, 1) := by decide +kernel
theorem dX6_standing_15 : decode cX6_standing 15 = .ok (.ldc_w 363, 3) := by decide +kernel
theorem dX6_standing_18 : decode cX6_standing 18 = .ok (.invokespecial 365, 3) := by decide +kernel
theorem dX6_standing_21 : decode cX6_standing 21 = .ok (.athrow, 1) := by decide +kernel
set_option maxHeartbeats 4000000 in
set_option maxRecDepth 100000 in
theorem c_X6_standing (l : Launch) (htr : l.stackTraces = false) (dC : Nat → ClassId) (dI : Nat → Nat → Nat) (e0 sz : Nat) (h0 : Nat) (a : Nat → Nat) (p0 : Int32) : vx_Met l yX6_standing wsX6_standing ({ frames := 6, cells := 1, slots := 6, locals := 90 }) (va_Pc [.ref h0, .int p0] (fun U => U.heap.size = sz ∧ va_P (dC, dI) vwCl [(h0, .inr (11, zC a))] U.heap ∧ va_K (dC, dI) vwCl [] U ∧ va_D (fun _ => True) [(h0, .inr (11, zC a))] ∧ zE e0 (va_A [(h0, .inr (11, zC a))] sz) U U.heap)) (va_Qi (fun (r : Int32) (_ : Unit) => False) (fun _ t => True) (va_A [(h0, .inr (11, zC a))] sz)) (zX zI (va_A [(h0, .inr (11, zC a))] sz)) 1 6 (va_A [(h0, .inr (11, zC a))] sz) := by
  refine vx_ofW (cc := cX6_standing) (maxL := 3) (ret := (some .int)) (by decide) rfl ?_
  intro p e s m args below meth c s₁ B hml hxt hv
  obtain ⟨rfl, hsz, hP, hK, hD0, hE⟩ := hv
  have hx := B.exec
  have hb := B.bytes
  have hr := B.returns
  have hts := atoms_spec (ws := wsX6_standing) B.pre
  have hown : s.vm.findClass RX6 = some m.cls := findClass_of_methodNamed B.named
  have hlocks := B.notSynchronized
  subst hsz
  have hD := hD0.self (sz := s.heap.size)
  generalize hAe : va_A [(h0, .inr (11, zC a))] s.heap.size = A at hD hE ⊢
  have hA : ∀ q : Nat, s.heap.size ≤ q → A q := fun q h => by rw [← hAe]; exact Or.inr h
  have hS : va_S A s.heap s.heap [] := va_S.rf
  have hl := lv_entry ([.ref h0, .int p0]) (n := 3) (Nat.le_of_ble_eq_true rfl)
  rw [lg_entry_eq]
  generalize (lg_sl ([.ref h0, .int p0]) ++ List.replicate (3 - (lg_sl ([.ref h0, .int p0])).length) Slot.unset).toArray = ls at hl ⊢
  have hl : lv_has ls 3 [(0, .ref h0), (1, .int p0)] := hl
  refine lv_aload_n hx hb dX6_standing_0 rfl (lv_at hl 0 rfl) ?_
  refine lv_iload_n hx hb dX6_standing_1 rfl (lv_at hl 1 rfl) ?_
  have hPc := hP.sub (ws' := [(h0, .inr (11, zC a))]) [0] rfl
  have hDc := hD.sub (ws' := [(h0, .inr (11, zC a))]) [0] (by decide) rfl
  have hKc := hK.sub (tys' := []) [] rfl
  have hFc := va_free (wc := [(h0, .inr (11, zC a))]) hD hS hA [0] rfl
  refine va_calli (va_runV (As := [.int p0]) (rest := []) ⟨hx, hb, hml, hown, hts⟩ (c_X6_teamAt l htr dC dI e0 s.heap.size h0 a p0) (cwV 1 hts gX6_standing_X6_teamAt rfl rfl rfl (by decide +kernel) ⟨Nat.le_of_ble_eq_true rfl, Nat.le_of_ble_eq_true rfl⟩) ⟨fun a U g mk q => by obtain ⟨q0, q1, qP, qK, qD⟩ := q; exact ⟨q0, q1, qP, va_K.moved (u := U) (U := U.calling g mk a) (Vm.Alike.refl U.vm) qK, qD⟩, va_recv hKc hPc (ci := 11) (q0 := 0) rfl rfl, fun U hU hW => ⟨rfl, by rw [hU], by rw [hU]; exact hPc, va_K.moved hW.alike hKc, hDc.weaken (fun _ _ _ _ => trivial)⟩⟩ rfl rfl hl.1 rfl (lv_room (Nat.le_of_ble_eq_true rfl)) dX6_standing_2 ⟨Nat.le_of_ble_eq_true rfl, Nat.le_of_ble_eq_true rfl⟩) hS (fun q _ h => hFc q h) hFc (fun r1 u t H1 locs ht hvm hw hB hz1 hk1 hS => ?_)
  obtain ⟨hP1, hK1, hD1⟩ := hB
  rw [ht] at hP1
  obtain ⟨hP, hD⟩ := va_join (wr := []) (w1 := [(h0, .inr (11, zC a))]) hP hD [0] [] rfl rfl (by decide) (by decide) hk1 hFc hP1 hD1
  generalize H1 = H at hP hS ⊢
  have hP : va_P (dC, dI) vwCl [(h0, .inr (11, zC a))] H := hP
  have hD : va_D A [(h0, .inr (11, zC a))] := hD
  obtain rfl : r1 = (-1) := hw
  refine lv_istore_n (lv' := [(2, .int (-1)), (0, .ref h0), (1, .int p0)]) hx hb dX6_standing_5 rfl hl (by decide) rfl (fun ls hl => ?_)
  refine lv_iload_n hx hb dX6_standing_6 rfl (lv_at hl 0 rfl) ?_
  refine lv_iconst (v := (-1)) hx hb dX6_standing_7 (by decide) ?_
  refine lv_icmp_ne (tgt := 22) hx hb dX6_standing_8 (by decide) (fun c2 => absurd (by decide) c2) (fun _ => ?_)
  obtain ⟨hU, hN, -, -, hV, -⟩ := id hE
  obtain ⟨sa, hstr⟩ := zV_T363 hV
  have hat := vx_hat (fun w h => hts w (List.mem_cons_of_mem _ (List.mem_append_right _ h))) zx_bzI (zB.of hV (zV_C_zI hV))
  exact vx_throwSW hx hb htr hown (by decide +kernel) (by decide +kernel) (hts (.classLink RX6 361 zI) (by decide +kernel)) (hts (.initialized zI) (by decide +kernel)) hstr hat zx_gzI hU hN hS (hl.1.trans hml.symm) dX6_standing_11 dX6_standing_14 dX6_standing_15 dX6_standing_18 dX6_standing_21 (fun x hx9 => absurd (hxt x hx9) id) (Nat.le_of_ble_eq_true rfl) (Nat.le_of_ble_eq_true rfl) (Nat.le_of_ble_eq_true rfl) (Nat.le_of_ble_eq_true rfl) hlocks (fun t _ h1 h2 => zX.of hS h1 h2) hS.2.2 (Nat.le_of_ble_eq_true rfl) (Nat.le_of_ble_eq_true rfl)
