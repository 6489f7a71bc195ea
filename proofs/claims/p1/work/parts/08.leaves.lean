theorem dX10_in_0 : decode cX10_in 0 = .ok (.lload_n 0, 1) := by decide +kernel
theorem dX10_in_1 : decode cX10_in 1 = .ok (.lload_n 2, 1) := by decide +kernel
theorem dX10_in_2 : decode cX10_in 2 = .ok (.lcmp, 1) := by decide +kernel
theorem dX10_in_3 : decode cX10_in 3 = .ok (.ifCond .lt 14, 3) := by decide +kernel
theorem dX10_in_6 : decode cX10_in 6 = .ok (.lload_n 0, 1) := by decide +kernel
theorem dX10_in_7 : decode cX10_in 7 = .ok (.lload 4, 2) := by decide +kernel
theorem dX10_in_9 : decode cX10_in 9 = .ok (.lcmp, 1) := by decide +kernel
theorem dX10_in_10 : decode cX10_in 10 = .ok (.ifCond .gt 7, 3) := by decide +kernel
theorem dX10_in_13 : decode cX10_in 13 = .ok (.iconst 1, 1) := by decide +kernel
theorem dX10_in_14 : decode cX10_in 14 = .ok (.goto 4, 3) := by decide +kernel
theorem dX10_in_17 : decode cX10_in 17 = .ok (.iconst 0, 1) := by decide +kernel
theorem dX10_in_18 : decode cX10_in 18 = .ok (.ireturn, 1) := by decide +kernel
set_option maxHeartbeats 4000000 in
set_option maxRecDepth 100000 in
theorem c_X10_in (l : Launch) (htr : l.stackTraces = false) (dC : Nat → ClassId) (dI : Nat → Nat → Nat) (e0 sz : Nat) (p0 : Int64) (p1 : Int64) (p2 : Int64) : Met l yX10_in wsX10_in ({ frames := 0, cells := 0, slots := 0, locals := 0 }) (va_Pc [.long p0, .long p1, .long p2] (fun U => U.heap.size = sz ∧ va_P (dC, dI) vwCl [] U.heap ∧ va_K (dC, dI) vwCl [] U ∧ va_D (fun _ => True) [])) (va_Qi (fun (r : Int32) (_ : Unit) => r = (if p1 ≤ p0 ∧ p0 ≤ p2 then 1 else 0)) (fun _ t => True) (va_A [] sz)) 0 0 (va_A [] sz) := by
  refine Met.ofW (cc := cX10_in) (maxL := 6) (ret := (some .boolean)) (by decide) rfl ?_
  intro p e s m args below meth c s₁ B hml hv
  obtain ⟨rfl, hsz, hP, hK, hD0⟩ := hv
  have hx := B.exec
  have hb := B.bytes
  have hr := B.returns
  have hts := atoms_spec (ws := wsX10_in) B.pre
  have hown : s.vm.findClass RX10 = some m.cls := findClass_of_methodNamed B.named
  have hlocks := B.notSynchronized
  subst hsz
  have hD := hD0.self (sz := s.heap.size)
  generalize hAe : va_A [] s.heap.size = A at hD ⊢
  have hA : ∀ q : Nat, s.heap.size ≤ q → A q := fun q h => by rw [← hAe]; exact Or.inr h
  have hS : va_S A s.heap s.heap [] := va_S.rf
  have hl := lv_entry ([.long p0, .long p1, .long p2]) (n := 6) (Nat.le_of_ble_eq_true rfl)
  rw [lg_entry_eq]
  generalize (lg_sl ([.long p0, .long p1, .long p2]) ++ List.replicate (6 - (lg_sl ([.long p0, .long p1, .long p2])).length) Slot.unset).toArray = ls at hl ⊢
  have hl : lv_has ls 6 [(0, .long p0), (2, .long p1), (4, .long p2)] := hl
  refine lv_lload_n hx hb dX10_in_0 rfl (lv_at hl 0 rfl) ?_
  refine lv_lload_n hx hb dX10_in_1 rfl (lv_at hl 1 rfl) ?_
  refine W.lcmp hx hb dX10_in_2 ?_
  refine lv_if_lt (tgt := 17) hx hb dX10_in_3 (by decide) (fun c1 => ?_) (fun c1 => ?_)
  · refine lv_iconst (v := 0) hx hb dX10_in_17 (by decide) ?_
    exact W.zret (v := 0) hx hb hr (by decide) (fun t ht hW => ⟨⟨0, (), rfl, (if_neg (fun h => absurd ((lg_cmp_lt _ _).mp c1) (Int64.not_lt.mpr h.1))).symm, trivial⟩, hS.F ht⟩) hS.2.2 dX10_in_18
  · refine lv_lload_n hx hb dX10_in_6 rfl (lv_at hl 0 rfl) ?_
    refine lv_lload hx hb dX10_in_7 (lv_at hl 2 rfl) ?_
    refine W.lcmp hx hb dX10_in_9 ?_
    refine lv_if_gt (tgt := 17) hx hb dX10_in_10 (by decide) (fun c2 => ?_) (fun c2 => ?_)
    · refine lv_iconst (v := 0) hx hb dX10_in_17 (by decide) ?_
      exact W.zret (v := 0) hx hb hr (by decide) (fun t ht hW => ⟨⟨0, (), rfl, (if_neg (fun h => absurd ((lg_cmp_gt _ _).mp c2) (Int64.not_lt.mpr h.2))).symm, trivial⟩, hS.F ht⟩) hS.2.2 dX10_in_18
    · refine lv_iconst (v := 1) hx hb dX10_in_13 (by decide) ?_
      refine lv_goto (tgt := 18) hx hb dX10_in_14 (by decide) ?_
      exact W.zret (v := 1) hx hb hr (by decide) (fun t ht hW => ⟨⟨1, (), rfl, (if_pos ⟨Int64.not_lt.mp (fun h => c1 ((lg_cmp_lt _ _).mpr h)), Int64.not_lt.mp (fun h => c2 ((lg_cmp_gt _ _).mpr h))⟩).symm, trivial⟩, hS.F ht⟩) hS.2.2 dX10_in_18

theorem dJx4a65c_size_8abf5_0 : decode cJx4a65c_size_8abf5 0 = .ok (.aload_n 0, 1) := by decide +kernel
theorem dJx4a65c_size_8abf5_1 : decode cJx4a65c_size_8abf5 1 = .ok (.getfield 48, 3) := by decide +kernel
theorem dJx4a65c_size_8abf5_4 : decode cJx4a65c_size_8abf5 4 = .ok (.ireturn, 1) := by decide +kernel
set_option maxHeartbeats 4000000 in
set_option maxRecDepth 100000 in
theorem c_Jx4a65c_size_8abf5 (l : Launch) (htr : l.stackTraces = false) (dC : Nat → ClassId) (dI : Nat → Nat → Nat) (e0 sz : Nat) (q : Nat) (m0 : Int32) (x0 : Nat) (n0 : Int32) : Met l yJx4a65c_size_8abf5 wsJx4a65c_size_8abf5 ({ frames := 0, cells := 0, slots := 0, locals := 0 }) (va_Pc [.ref q] (fun U => U.heap.size = sz ∧ va_P (dC, dI) vwCl [(q, .inr (4, [.int m0, .ref x0, .int n0]))] U.heap ∧ va_K (dC, dI) vwCl [] U ∧ va_D (fun _ => True) [(q, .inr (4, [.int m0, .ref x0, .int n0]))])) (va_Qi (fun (r : Int32) (_ : Unit) => r = n0) (fun _ t => va_P (dC, dI) vwCl [(q, .inr (4, [.int m0, .ref x0, .int n0]))] t.heap ∧ va_K (dC, dI) vwCl [] t ∧ va_D (va_A [(q, .inr (4, [.int m0, .ref x0, .int n0]))] sz) [(q, .inr (4, [.int m0, .ref x0, .int n0]))]) (va_A [(q, .inr (4, [.int m0, .ref x0, .int n0]))] sz)) 0 0 (va_A [(q, .inr (4, [.int m0, .ref x0, .int n0]))] sz) := by
  refine Met.ofW (cc := cJx4a65c_size_8abf5) (maxL := 1) (ret := (some .int)) (by decide) rfl ?_
  intro p e s m args below meth c s₁ B hml hv
  obtain ⟨rfl, hsz, hP, hK, hD0⟩ := hv
  have hx := B.exec
  have hb := B.bytes
  have hr := B.returns
  have hts := atoms_spec (ws := wsJx4a65c_size_8abf5) B.pre
  have hown : s.vm.findClass RJx4a65c = some m.cls := findClass_of_methodNamed B.named
  have hlocks := B.notSynchronized
  subst hsz
  have hD := hD0.self (sz := s.heap.size)
  generalize hAe : va_A [(q, .inr (4, [.int m0, .ref x0, .int n0]))] s.heap.size = A at hD ⊢
  have hA : ∀ q : Nat, s.heap.size ≤ q → A q := fun q h => by rw [← hAe]; exact Or.inr h
  have hS : va_S A s.heap s.heap [] := va_S.rf
  have hl := lv_entry ([.ref q]) (n := 1) (Nat.le_of_ble_eq_true rfl)
  rw [lg_entry_eq]
  generalize (lg_sl ([.ref q]) ++ List.replicate (1 - (lg_sl ([.ref q])).length) Slot.unset).toArray = ls at hl ⊢
  have hl : lv_has ls 1 [(0, .ref q)] := hl
  refine lv_aload_n hx hb dJx4a65c_size_8abf5_0 rfl (lv_at hl 0 rfl) ?_
  refine va_get (D := (dC, dI)) (ci := 4) (v := .int n0) (C := RJx4a65c) (T := TJx4a65c) (N := 3) hx hb hts (by decide +kernel) hown hK hP 0 rfl rfl 2 (by decide) (hts (.fieldLink RJx4a65c 48 "java/util/ArrayList" "size" "I") (by decide +kernel)) (fun _ h9 => h9) rfl dJx4a65c_size_8abf5_1 ?_
  have hP9 := hP.sub (ws' := [(q, .inr (4, [.int m0, .ref x0, .int n0]))]) [0] rfl
  have hD9 := hD.sub (ws' := [(q, .inr (4, [.int m0, .ref x0, .int n0]))]) [0] (by decide) rfl
  have hK9 := hK.sub (tys' := []) [] rfl
  exact W.iret (v := n0) hx hb hr (fun t ht hW => ⟨⟨n0, (), rfl, rfl, ⟨by rw [ht]; exact hP9, va_K.moved hW.alike hK9, hD9⟩⟩, hS.F ht⟩) hS.2.2 dJx4a65c_size_8abf5_4

theorem dX10_goesOn_0 : decode cX10_goesOn 0 = .ok (.aload_n 0, 1) := by decide +kernel
theorem dX10_goesOn_1 : decode cX10_goesOn 1 = .ok (.iload_n 1, 1) := by decide +kernel
theorem dX10_goesOn_2 : decode cX10_goesOn 2 = .ok (.putfield 25, 3) := by decide +kernel
theorem dX10_goesOn_5 : decode cX10_goesOn 5 = .ok (.iload_n 1, 1) := by decide +kernel
theorem dX10_goesOn_6 : decode cX10_goesOn 6 = .ok (.ifCond .ne 7, 3) := by decide +kernel
theorem dX10_goesOn_9 : decode cX10_goesOn 9 = .ok (.iconst 1, 1) := by decide +kernel
theorem dX10_goesOn_10 : decode cX10_goesOn 10 = .ok (.goto 4, 3) := by decide +kernel
theorem dX10_goesOn_13 : decode cX10_goesOn 13 = .ok (.iconst 0, 1) := by decide +kernel
theorem dX10_goesOn_14 : decode cX10_goesOn 14 = .ok (.ireturn, 1) := by decide +kernel
set_option maxHeartbeats 4000000 in
set_option maxRecDepth 100000 in
theorem c_X10_goesOn (l : Launch) (htr : l.stackTraces = false) (dC : Nat → ClassId) (dI : Nat → Nat → Nat) (e0 sz : Nat) (h0 : Nat) (th : Int32) (b : Nat → Nat) (p0 : Int32) : Met l yX10_goesOn wsX10_goesOn ({ frames := 0, cells := 0, slots := 0, locals := 0 }) (va_Pc [.ref h0, .int p0] (fun U => U.heap.size = sz ∧ va_P (dC, dI) vwCl [(h0, .inr (15, zM th b))] U.heap ∧ va_K (dC, dI) vwCl [] U ∧ va_D (fun _ => True) [(h0, .inr (15, zM th b))])) (va_Qi (fun (r : Int32) (_ : Unit) => r = (if p0 = 0 then 1 else 0)) (fun _ t => va_P (dC, dI) vwCl [(h0, .inr (15, zM p0 b))] t.heap ∧ va_K (dC, dI) vwCl [] t ∧ va_D (va_A [(h0, .inr (15, zM th b))] sz) [(h0, .inr (15, zM p0 b))]) (va_A [(h0, .inr (15, zM th b))] sz)) 0 0 (va_A [(h0, .inr (15, zM th b))] sz) := by
  refine Met.ofW (cc := cX10_goesOn) (maxL := 2) (ret := (some .boolean)) (by decide) rfl ?_
  intro p e s m args below meth c s₁ B hml hv
  obtain ⟨rfl, hsz, hP, hK, hD0⟩ := hv
  have hx := B.exec
  have hb := B.bytes
  have hr := B.returns
  have hts := atoms_spec (ws := wsX10_goesOn) B.pre
  have hown : s.vm.findClass RX10 = some m.cls := findClass_of_methodNamed B.named
  have hlocks := B.notSynchronized
  subst hsz
  have hD := hD0.self (sz := s.heap.size)
  generalize hAe : va_A [(h0, .inr (15, zM th b))] s.heap.size = A at hD ⊢
  have hA : ∀ q : Nat, s.heap.size ≤ q → A q := fun q h => by rw [← hAe]; exact Or.inr h
  have hS : va_S A s.heap s.heap [] := va_S.rf
  have hl := lv_entry ([.ref h0, .int p0]) (n := 2) (Nat.le_of_ble_eq_true rfl)
  rw [lg_entry_eq]
  generalize (lg_sl ([.ref h0, .int p0]) ++ List.replicate (2 - (lg_sl ([.ref h0, .int p0])).length) Slot.unset).toArray = ls at hl ⊢
  have hl : lv_has ls 2 [(0, .ref h0), (1, .int p0)] := hl
  refine lv_aload_n hx hb dX10_goesOn_0 rfl (lv_at hl 0 rfl) ?_
  refine lv_iload_n hx hb dX10_goesOn_1 rfl (lv_at hl 1 rfl) ?_
  refine va_put (D := (dC, dI)) (ci := 15) (v := .int p0) (ty := .int) (C := RX10) (T := TX10) (N := 11) hx hb hts (by decide +kernel) tyX10 tyX10_ok nmX10 hown hK hP hD hS 0 rfl rfl 0 (by decide) (hts (.fieldLink RX10 25 "GanglineModel" "thrown" "I") (by decide +kernel)) (fun _ h9 => h9) rfl (by decide +kernel) rfl rfl (Nat.le_of_ble_eq_true rfl) dX10_goesOn_2 (fun H locs hP hD hS => ?_)
  have hP : va_P (dC, dI) vwCl [(h0, .inr (15, [.int p0, .ref (b 0), .ref (b 1), .ref (b 2), .ref (b 3), .int 0, .long 0, .int 0, .int 0, .int 0, .int 0]))] H := hP
  have hD : va_D A [(h0, .inr (15, [.int p0, .ref (b 0), .ref (b 1), .ref (b 2), .ref (b 3), .int 0, .long 0, .int 0, .int 0, .int 0, .int 0]))] := hD
  refine lv_iload_n hx hb dX10_goesOn_5 rfl (lv_at hl 1 rfl) ?_
  refine lv_if_ne (tgt := 13) hx hb dX10_goesOn_6 (by decide) (fun c1 => ?_) (fun c1 => ?_)
  · refine lv_iconst (v := 0) hx hb dX10_goesOn_13 (by decide) ?_
    have hP9 := hP.sub (ws' := [(h0, .inr (15, zM p0 b))]) [0] rfl
    have hD9 := hD.sub (ws' := [(h0, .inr (15, zM p0 b))]) [0] (by decide) rfl
    have hK9 := hK.sub (tys' := []) [] rfl
    exact W.zret (v := 0) hx hb hr (by decide) (fun t ht hW => ⟨⟨0, (), rfl, (if_neg c1).symm, ⟨by rw [ht]; exact hP9, va_K.moved hW.alike hK9, hD9⟩⟩, hS.F ht⟩) hS.2.2 dX10_goesOn_14
  · refine lv_iconst (v := 1) hx hb dX10_goesOn_9 (by decide) ?_
    refine lv_goto (tgt := 14) hx hb dX10_goesOn_10 (by decide) ?_
    have hP9 := hP.sub (ws' := [(h0, .inr (15, zM p0 b))]) [0] rfl
    have hD9 := hD.sub (ws' := [(h0, .inr (15, zM p0 b))]) [0] (by decide) rfl
    have hK9 := hK.sub (tys' := []) [] rfl
    exact W.zret (v := 1) hx hb hr (by decide) (fun t ht hW => ⟨⟨1, (), rfl, (if_pos c1).symm, ⟨by rw [ht]; exact hP9, va_K.moved hW.alike hK9, hD9⟩⟩, hS.F ht⟩) hS.2.2 dX10_goesOn_14

set_option maxRecDepth 20000 in
theorem ggX10_isTeam_Jx4a65c_size_8abf5 : GoodIn wsX10_isTeam wsJx4a65c_size_8abf5 := goodIn_r _ [6, 7, 23, 24, 25] (by decide +kernel) (by decide +kernel)
set_option maxRecDepth 20000 in
theorem gX10_isTeam_Jx4a65c_size_8abf5_f59Jx4a65c : GoodIn wsX10_isTeam (va_wsF RX10 59 RJx4a65c ⟨"java/util/List", "size", "()I"⟩ yJx4a65c_size_8abf5 wsJx4a65c_size_8abf5) := goodIn_app (goodIn_of _ (by decide +kernel)) ggX10_isTeam_Jx4a65c_size_8abf5
set_option maxRecDepth 20000 in
theorem ggX10_isTeam_X10_in : GoodIn wsX10_isTeam wsX10_in := goodIn_r _ [11] (by decide +kernel) (by decide +kernel)
set_option maxRecDepth 20000 in
theorem gX10_isTeam_X10_in : GoodIn wsX10_isTeam (va_wsS RX10 63 yX10_in wsX10_in) := goodIn_app (goodIn_of _ (by decide +kernel)) ggX10_isTeam_X10_in
theorem dX10_isTeam_0 : decode cX10_isTeam 0 = .ok (.iload_n 1, 1) := by decide +kernel
theorem dX10_isTeam_1 : decode cX10_isTeam 1 = .ok (.i2l, 1) := by decide +kernel
theorem dX10_isTeam_2 : decode cX10_isTeam 2 = .ok (.lconst 0, 1) := by decide +kernel
theorem dX10_isTeam_3 : decode cX10_isTeam 3 = .ok (.aload_n 0, 1) := by decide +kernel
theorem dX10_isTeam_4 : decode cX10_isTeam 4 = .ok (.getfield 19, 3) := by decide +kernel
theorem dX10_isTeam_7 : decode cX10_isTeam 7 = .ok (.invokeinterface 59 1, 5) := by decide +kernel
theorem dX10_isTeam_12 : decode cX10_isTeam 12 = .ok (.iconst 1, 1) := by decide +kernel
theorem dX10_isTeam_13 : decode cX10_isTeam 13 = .ok (.isub, 1) := by decide +kernel
theorem dX10_isTeam_14 : decode cX10_isTeam 14 = .ok (.i2l, 1) := by decide +kernel
theorem dX10_isTeam_15 : decode cX10_isTeam 15 = .ok (.invokestatic 63, 3) := by decide +kernel
theorem dX10_isTeam_18 : decode cX10_isTeam 18 = .ok (.ireturn, 1) := by decide +kernel
set_option maxHeartbeats 4000000 in
set_option maxRecDepth 100000 in
theorem c_X10_isTeam (l : Launch) (htr : l.stackTraces = false) (dC : Nat → ClassId) (dI : Nat → Nat → Nat) (e0 sz : Nat) (h0 : Nat) (th : Int32) (b : Nat → Nat) (p0 : Int32) : Met l yX10_isTeam wsX10_isTeam ({ frames := 1, cells := 0, slots := 0, locals := 25 }) (va_Pc [.ref h0, .int p0] (fun U => U.heap.size = sz ∧ va_P (dC, dI) vwCl [(h0, .inr (15, zM th b)), ((b 2), .inr (4, [.int 0, .ref e0, .int 0]))] U.heap ∧ va_K (dC, dI) vwCl [] U ∧ va_D (fun _ => True) [(h0, .inr (15, zM th b)), ((b 2), .inr (4, [.int 0, .ref e0, .int 0]))] ∧ zE e0 (va_A [(h0, .inr (15, zM th b)), ((b 2), .inr (4, [.int 0, .ref e0, .int 0]))] sz) U U.heap)) (va_Qi (fun (r : Int32) (_ : Unit) => r = 0) (fun _ t => va_P (dC, dI) vwCl [(h0, .inr (15, zM th b)), ((b 2), .inr (4, [.int 0, .ref e0, .int 0]))] t.heap ∧ va_K (dC, dI) vwCl [] t ∧ va_D (va_A [(h0, .inr (15, zM th b)), ((b 2), .inr (4, [.int 0, .ref e0, .int 0]))] sz) [(h0, .inr (15, zM th b)), ((b 2), .inr (4, [.int 0, .ref e0, .int 0]))]) (va_A [(h0, .inr (15, zM th b)), ((b 2), .inr (4, [.int 0, .ref e0, .int 0]))] sz)) 0 0 (va_A [(h0, .inr (15, zM th b)), ((b 2), .inr (4, [.int 0, .ref e0, .int 0]))] sz) := by
  refine Met.ofW (cc := cX10_isTeam) (maxL := 2) (ret := (some .boolean)) (by decide) rfl ?_
  intro p e s m args below meth c s₁ B hml hv
  obtain ⟨rfl, hsz, hP, hK, hD0, hE⟩ := hv
  have hx := B.exec
  have hb := B.bytes
  have hr := B.returns
  have hts := atoms_spec (ws := wsX10_isTeam) B.pre
  have hown : s.vm.findClass RX10 = some m.cls := findClass_of_methodNamed B.named
  have hlocks := B.notSynchronized
  subst hsz
  have hD := hD0.self (sz := s.heap.size)
  generalize hAe : va_A [(h0, .inr (15, zM th b)), ((b 2), .inr (4, [.int 0, .ref e0, .int 0]))] s.heap.size = A at hD hE ⊢
  have hA : ∀ q : Nat, s.heap.size ≤ q → A q := fun q h => by rw [← hAe]; exact Or.inr h
  have hS : va_S A s.heap s.heap [] := va_S.rf
  have hl := lv_entry ([.ref h0, .int p0]) (n := 2) (Nat.le_of_ble_eq_true rfl)
  rw [lg_entry_eq]
  generalize (lg_sl ([.ref h0, .int p0]) ++ List.replicate (2 - (lg_sl ([.ref h0, .int p0])).length) Slot.unset).toArray = ls at hl ⊢
  have hl : lv_has ls 2 [(0, .ref h0), (1, .int p0)] := hl
  refine lv_iload_n hx hb dX10_isTeam_0 rfl (lv_at hl 1 rfl) ?_
  refine lv_i2l (v := (p0).toInt64) hx hb dX10_isTeam_1 rfl ?_
  refine lv_lconst (v := 0) hx hb dX10_isTeam_2 (by decide) ?_
  refine lv_aload_n hx hb dX10_isTeam_3 rfl (lv_at hl 0 rfl) ?_
  refine va_get (D := (dC, dI)) (ci := 15) (v := .ref (b 2)) (C := RX10) (T := TX10) (N := 11) hx hb hts (by decide +kernel) hown hK hP 0 rfl rfl 3 (by decide) (hts (.fieldLink RX10 19 "GanglineModel" "teams" "Ljava/util/List;") (by decide +kernel)) (fun _ h9 => h9) rfl dX10_isTeam_4 ?_
  have hPc := hP.sub (ws' := [((b 2), .inr (4, [.int 0, .ref e0, .int 0]))]) [1] rfl
  have hDc := hD.sub (ws' := [((b 2), .inr (4, [.int 0, .ref e0, .int 0]))]) [1] (by decide) rfl
  have hKc := hK.sub (tys' := []) [] rfl
  have hFc := va_free (wc := [((b 2), .inr (4, [.int 0, .ref e0, .int 0]))]) hD hS hA [1] rfl
  refine va_callFi (va_runF (As := []) (rest := [.long 0, .long (p0).toInt64]) (hK.1 4 _ rfl).2 ⟨hx, hb, hml, hown, hts⟩ (c_Jx4a65c_size_8abf5 l htr dC dI e0 s.heap.size (b 2) 0 e0 0) (va_cwF 0 hts gX10_isTeam_Jx4a65c_size_8abf5_f59Jx4a65c rfl rfl rfl (zV_W_size hE.v) (by decide +kernel) ⟨Nat.le_of_ble_eq_true rfl, Nat.le_of_ble_eq_true rfl⟩) ⟨fun a U g mk q => by obtain ⟨q0, q1, qP, qK, qD⟩ := q; exact ⟨q0, q1, qP, va_K.moved (u := U) (U := U.calling g mk a) (Vm.Alike.refl U.vm) qK, qD⟩, va_recv hKc hPc (ci := 4) (q0 := 0) rfl rfl, fun U hU hW => ⟨rfl, by rw [hU], by rw [hU]; exact hPc, va_K.moved hW.alike hKc, hDc.weaken (fun _ _ _ _ => trivial)⟩⟩ rfl rfl hl.1 rfl (lv_room (Nat.le_of_ble_eq_true rfl)) dX10_isTeam_7 ⟨Nat.le_of_ble_eq_true rfl, Nat.le_of_ble_eq_true rfl⟩) hS (fun q _ h => hFc q h) hFc (fun r1 u t H1 locs ht hvm hw hB hz1 hk1 hS => ?_)
  obtain ⟨hP1, hK1, hD1⟩ := hB
  rw [ht] at hP1
  obtain ⟨hP, hD⟩ := va_join (wr := [(h0, .inr (15, zM th b))]) (w1 := [((b 2), .inr (4, [.int 0, .ref e0, .int 0]))]) hP hD [1] [0] rfl rfl (by decide) (by decide) hk1 hFc hP1 hD1
  generalize H1 = H at hP hS ⊢
  have hP : va_P (dC, dI) vwCl [(h0, .inr (15, zM th b)), ((b 2), .inr (4, [.int 0, .ref e0, .int 0]))] H := hP
  have hD : va_D A [(h0, .inr (15, zM th b)), ((b 2), .inr (4, [.int 0, .ref e0, .int 0]))] := hD
  obtain rfl : r1 = 0 := hw
  refine lv_iconst (v := 1) hx hb dX10_isTeam_12 (by decide) ?_
  refine lv_isub hx hb dX10_isTeam_13 ?_
  refine lv_topi (fun y2 e3 => ?_)
  obtain rfl : y2 = (-1) := e3.trans (by decide)
  refine lv_i2l (v := (-1)) hx hb dX10_isTeam_14 (by decide) ?_
  have hPc := hP.sub (ws' := []) [] rfl
  have hDc := hD.sub (ws' := []) [] (by decide) rfl
  have hKc := hK.sub (tys' := []) [] rfl
  have hFc := va_free (wc := []) hD hS hA [] rfl
  refine va_calli (va_runS (As := [.long (p0).toInt64, .long 0, .long (-1)]) (rest := []) ⟨hx, hb, hml, hown, hts⟩ (c_X10_in l htr dC dI e0 H.size ((p0).toInt64) 0 (-1)) (va_cwS 3 hts gX10_isTeam_X10_in rfl rfl rfl (by decide +kernel) ⟨Nat.le_of_ble_eq_true rfl, Nat.le_of_ble_eq_true rfl⟩) ⟨fun a U g mk q => by obtain ⟨q0, q1, qP, qK, qD⟩ := q; exact ⟨q0, q1, qP, va_K.moved (u := U) (U := U.calling g mk a) (Vm.Alike.refl U.vm) qK, qD⟩, fun U hU hW => ⟨rfl, by rw [hU], by rw [hU]; exact hPc, va_K.moved hW.alike hKc, hDc.weaken (fun _ _ _ _ => trivial)⟩⟩ rfl rfl hl.1 rfl (lv_room (Nat.le_of_ble_eq_true rfl)) dX10_isTeam_15 ⟨Nat.le_of_ble_eq_true rfl, Nat.le_of_ble_eq_true rfl⟩) hS (fun q _ h => hFc q h) hFc (fun r4 u t H1 locs ht hvm hw hB hz1 hk1 hS => ?_)
  have hP1 : va_P (dC, dI) vwCl [] H1 := fun k q h => by simp at h
  have hD1 : va_D (va_A [] H.size) [] := ⟨fun i j p q h => by simp at h, fun k q h => by simp at h⟩
  obtain ⟨hP, hD⟩ := va_join (wr := [(h0, .inr (15, zM th b)), ((b 2), .inr (4, [.int 0, .ref e0, .int 0]))]) (w1 := []) hP hD [] [0, 1] rfl rfl (by decide) (by decide) hk1 hFc hP1 hD1
  generalize H1 = H at hP hS ⊢
  have hP : va_P (dC, dI) vwCl [(h0, .inr (15, zM th b)), ((b 2), .inr (4, [.int 0, .ref e0, .int 0]))] H := hP
  have hD : va_D A [(h0, .inr (15, zM th b)), ((b 2), .inr (4, [.int 0, .ref e0, .int 0]))] := hD
  obtain rfl : r4 = 0 := hw.trans (if_neg (fun h => absurd (Int64.le_trans h.1 h.2) (by decide)))
  have hP9 := hP.sub (ws' := [(h0, .inr (15, zM th b)), ((b 2), .inr (4, [.int 0, .ref e0, .int 0]))]) [0, 1] rfl
  have hD9 := hD.sub (ws' := [(h0, .inr (15, zM th b)), ((b 2), .inr (4, [.int 0, .ref e0, .int 0]))]) [0, 1] (by decide) rfl
  have hK9 := hK.sub (tys' := []) [] rfl
  exact W.zret (v := 0) hx hb hr (by decide) (fun t ht hW => ⟨⟨0, (), rfl, rfl, ⟨by rw [ht]; exact hP9, va_K.moved hW.alike hK9, hD9⟩⟩, hS.F ht⟩) hS.2.2 dX10_isTeam_18

set_option maxRecDepth 20000 in
theorem ggX10_isDog_Jx4a65c_size_8abf5 : GoodIn wsX10_isDog wsJx4a65c_size_8abf5 := goodIn_r _ [6, 7, 23, 24, 25] (by decide +kernel) (by decide +kernel)
set_option maxRecDepth 20000 in
theorem gX10_isDog_Jx4a65c_size_8abf5_f59Jx4a65c : GoodIn wsX10_isDog (va_wsF RX10 59 RJx4a65c ⟨"java/util/List", "size", "()I"⟩ yJx4a65c_size_8abf5 wsJx4a65c_size_8abf5) := goodIn_app (goodIn_of _ (by decide +kernel)) ggX10_isDog_Jx4a65c_size_8abf5
set_option maxRecDepth 20000 in
theorem ggX10_isDog_X10_in : GoodIn wsX10_isDog wsX10_in := goodIn_r _ [11] (by decide +kernel) (by decide +kernel)
set_option maxRecDepth 20000 in
theorem gX10_isDog_X10_in : GoodIn wsX10_isDog (va_wsS RX10 63 yX10_in wsX10_in) := goodIn_app (goodIn_of _ (by decide +kernel)) ggX10_isDog_X10_in
theorem dX10_isDog_0 : decode cX10_isDog 0 = .ok (.iload_n 1, 1) := by decide +kernel
theorem dX10_isDog_1 : decode cX10_isDog 1 = .ok (.i2l, 1) := by decide +kernel
theorem dX10_isDog_2 : decode cX10_isDog 2 = .ok (.lconst 0, 1) := by decide +kernel
theorem dX10_isDog_3 : decode cX10_isDog 3 = .ok (.aload_n 0, 1) := by decide +kernel
theorem dX10_isDog_4 : decode cX10_isDog 4 = .ok (.getfield 22, 3) := by decide +kernel
theorem dX10_isDog_7 : decode cX10_isDog 7 = .ok (.invokeinterface 59 1, 5) := by decide +kernel
theorem dX10_isDog_12 : decode cX10_isDog 12 = .ok (.iconst 1, 1) := by decide +kernel
theorem dX10_isDog_13 : decode cX10_isDog 13 = .ok (.isub, 1) := by decide +kernel
theorem dX10_isDog_14 : decode cX10_isDog 14 = .ok (.i2l, 1) := by decide +kernel
theorem dX10_isDog_15 : decode cX10_isDog 15 = .ok (.invokestatic 63, 3) := by decide +kernel
theorem dX10_isDog_18 : decode cX10_isDog 18 = .ok (.ireturn, 1) := by decide +kernel
set_option maxHeartbeats 4000000 in
set_option maxRecDepth 100000 in
theorem c_X10_isDog (l : Launch) (htr : l.stackTraces = false) (dC : Nat → ClassId) (dI : Nat → Nat → Nat) (e0 sz : Nat) (h0 : Nat) (th : Int32) (b : Nat → Nat) (p0 : Int32) : Met l yX10_isDog wsX10_isDog ({ frames := 1, cells := 0, slots := 0, locals := 25 }) (va_Pc [.ref h0, .int p0] (fun U => U.heap.size = sz ∧ va_P (dC, dI) vwCl [(h0, .inr (15, zM th b)), ((b 3), .inr (4, [.int 0, .ref e0, .int 0]))] U.heap ∧ va_K (dC, dI) vwCl [] U ∧ va_D (fun _ => True) [(h0, .inr (15, zM th b)), ((b 3), .inr (4, [.int 0, .ref e0, .int 0]))] ∧ zE e0 (va_A [(h0, .inr (15, zM th b)), ((b 3), .inr (4, [.int 0, .ref e0, .int 0]))] sz) U U.heap)) (va_Qi (fun (r : Int32) (_ : Unit) => r = 0) (fun _ t => va_P (dC, dI) vwCl [(h0, .inr (15, zM th b)), ((b 3), .inr (4, [.int 0, .ref e0, .int 0]))] t.heap ∧ va_K (dC, dI) vwCl [] t ∧ va_D (va_A [(h0, .inr (15, zM th b)), ((b 3), .inr (4, [.int 0, .ref e0, .int 0]))] sz) [(h0, .inr (15, zM th b)), ((b 3), .inr (4, [.int 0, .ref e0, .int 0]))]) (va_A [(h0, .inr (15, zM th b)), ((b 3), .inr (4, [.int 0, .ref e0, .int 0]))] sz)) 0 0 (va_A [(h0, .inr (15, zM th b)), ((b 3), .inr (4, [.int 0, .ref e0, .int 0]))] sz) := by
  refine Met.ofW (cc := cX10_isDog) (maxL := 2) (ret := (some .boolean)) (by decide) rfl ?_
  intro p e s m args below meth c s₁ B hml hv
  obtain ⟨rfl, hsz, hP, hK, hD0, hE⟩ := hv
  have hx := B.exec
  have hb := B.bytes
  have hr := B.returns
  have hts := atoms_spec (ws := wsX10_isDog) B.pre
  have hown : s.vm.findClass RX10 = some m.cls := findClass_of_methodNamed B.named
  have hlocks := B.notSynchronized
  subst hsz
  have hD := hD0.self (sz := s.heap.size)
  generalize hAe : va_A [(h0, .inr (15, zM th b)), ((b 3), .inr (4, [.int 0, .ref e0, .int 0]))] s.heap.size = A at hD hE ⊢
  have hA : ∀ q : Nat, s.heap.size ≤ q → A q := fun q h => by rw [← hAe]; exact Or.inr h
  have hS : va_S A s.heap s.heap [] := va_S.rf
  have hl := lv_entry ([.ref h0, .int p0]) (n := 2) (Nat.le_of_ble_eq_true rfl)
  rw [lg_entry_eq]
  generalize (lg_sl ([.ref h0, .int p0]) ++ List.replicate (2 - (lg_sl ([.ref h0, .int p0])).length) Slot.unset).toArray = ls at hl ⊢
  have hl : lv_has ls 2 [(0, .ref h0), (1, .int p0)] := hl
  refine lv_iload_n hx hb dX10_isDog_0 rfl (lv_at hl 1 rfl) ?_
  refine lv_i2l (v := (p0).toInt64) hx hb dX10_isDog_1 rfl ?_
  refine lv_lconst (v := 0) hx hb dX10_isDog_2 (by decide) ?_
  refine lv_aload_n hx hb dX10_isDog_3 rfl (lv_at hl 0 rfl) ?_
  refine va_get (D := (dC, dI)) (ci := 15) (v := .ref (b 3)) (C := RX10) (T := TX10) (N := 11) hx hb hts (by decide +kernel) hown hK hP 0 rfl rfl 4 (by decide) (hts (.fieldLink RX10 22 "GanglineModel" "dogs" "Ljava/util/List;") (by decide +kernel)) (fun _ h9 => h9) rfl dX10_isDog_4 ?_
  have hPc := hP.sub (ws' := [((b 3), .inr (4, [.int 0, .ref e0, .int 0]))]) [1] rfl
  have hDc := hD.sub (ws' := [((b 3), .inr (4, [.int 0, .ref e0, .int 0]))]) [1] (by decide) rfl
  have hKc := hK.sub (tys' := []) [] rfl
  have hFc := va_free (wc := [((b 3), .inr (4, [.int 0, .ref e0, .int 0]))]) hD hS hA [1] rfl
  refine va_callFi (va_runF (As := []) (rest := [.long 0, .long (p0).toInt64]) (hK.1 4 _ rfl).2 ⟨hx, hb, hml, hown, hts⟩ (c_Jx4a65c_size_8abf5 l htr dC dI e0 s.heap.size (b 3) 0 e0 0) (va_cwF 0 hts gX10_isDog_Jx4a65c_size_8abf5_f59Jx4a65c rfl rfl rfl (zV_W_size hE.v) (by decide +kernel) ⟨Nat.le_of_ble_eq_true rfl, Nat.le_of_ble_eq_true rfl⟩) ⟨fun a U g mk q => by obtain ⟨q0, q1, qP, qK, qD⟩ := q; exact ⟨q0, q1, qP, va_K.moved (u := U) (U := U.calling g mk a) (Vm.Alike.refl U.vm) qK, qD⟩, va_recv hKc hPc (ci := 4) (q0 := 0) rfl rfl, fun U hU hW => ⟨rfl, by rw [hU], by rw [hU]; exact hPc, va_K.moved hW.alike hKc, hDc.weaken (fun _ _ _ _ => trivial)⟩⟩ rfl rfl hl.1 rfl (lv_room (Nat.le_of_ble_eq_true rfl)) dX10_isDog_7 ⟨Nat.le_of_ble_eq_true rfl, Nat.le_of_ble_eq_true rfl⟩) hS (fun q _ h => hFc q h) hFc (fun r1 u t H1 locs ht hvm hw hB hz1 hk1 hS => ?_)
  obtain ⟨hP1, hK1, hD1⟩ := hB
  rw [ht] at hP1
  obtain ⟨hP, hD⟩ := va_join (wr := [(h0, .inr (15, zM th b))]) (w1 := [((b 3), .inr (4, [.int 0, .ref e0, .int 0]))]) hP hD [1] [0] rfl rfl (by decide) (by decide) hk1 hFc hP1 hD1
  generalize H1 = H at hP hS ⊢
  have hP : va_P (dC, dI) vwCl [(h0, .inr (15, zM th b)), ((b 3), .inr (4, [.int 0, .ref e0, .int 0]))] H := hP
  have hD : va_D A [(h0, .inr (15, zM th b)), ((b 3), .inr (4, [.int 0, .ref e0, .int 0]))] := hD
  obtain rfl : r1 = 0 := hw
  refine lv_iconst (v := 1) hx hb dX10_isDog_12 (by decide) ?_
  refine lv_isub hx hb dX10_isDog_13 ?_
  refine lv_topi (fun y2 e3 => ?_)
  obtain rfl : y2 = (-1) := e3.trans (by decide)
  refine lv_i2l (v := (-1)) hx hb dX10_isDog_14 (by decide) ?_
  have hPc := hP.sub (ws' := []) [] rfl
  have hDc := hD.sub (ws' := []) [] (by decide) rfl
  have hKc := hK.sub (tys' := []) [] rfl
  have hFc := va_free (wc := []) hD hS hA [] rfl
  refine va_calli (va_runS (As := [.long (p0).toInt64, .long 0, .long (-1)]) (rest := []) ⟨hx, hb, hml, hown, hts⟩ (c_X10_in l htr dC dI e0 H.size ((p0).toInt64) 0 (-1)) (va_cwS 3 hts gX10_isDog_X10_in rfl rfl rfl (by decide +kernel) ⟨Nat.le_of_ble_eq_true rfl, Nat.le_of_ble_eq_true rfl⟩) ⟨fun a U g mk q => by obtain ⟨q0, q1, qP, qK, qD⟩ := q; exact ⟨q0, q1, qP, va_K.moved (u := U) (U := U.calling g mk a) (Vm.Alike.refl U.vm) qK, qD⟩, fun U hU hW => ⟨rfl, by rw [hU], by rw [hU]; exact hPc, va_K.moved hW.alike hKc, hDc.weaken (fun _ _ _ _ => trivial)⟩⟩ rfl rfl hl.1 rfl (lv_room (Nat.le_of_ble_eq_true rfl)) dX10_isDog_15 ⟨Nat.le_of_ble_eq_true rfl, Nat.le_of_ble_eq_true rfl⟩) hS (fun q _ h => hFc q h) hFc (fun r4 u t H1 locs ht hvm hw hB hz1 hk1 hS => ?_)
  have hP1 : va_P (dC, dI) vwCl [] H1 := fun k q h => by simp at h
  have hD1 : va_D (va_A [] H.size) [] := ⟨fun i j p q h => by simp at h, fun k q h => by simp at h⟩
  obtain ⟨hP, hD⟩ := va_join (wr := [(h0, .inr (15, zM th b)), ((b 3), .inr (4, [.int 0, .ref e0, .int 0]))]) (w1 := []) hP hD [] [0, 1] rfl rfl (by decide) (by decide) hk1 hFc hP1 hD1
  generalize H1 = H at hP hS ⊢
  have hP : va_P (dC, dI) vwCl [(h0, .inr (15, zM th b)), ((b 3), .inr (4, [.int 0, .ref e0, .int 0]))] H := hP
  have hD : va_D A [(h0, .inr (15, zM th b)), ((b 3), .inr (4, [.int 0, .ref e0, .int 0]))] := hD
  obtain rfl : r4 = 0 := hw.trans (if_neg (fun h => absurd (Int64.le_trans h.1 h.2) (by decide)))
  have hP9 := hP.sub (ws' := [(h0, .inr (15, zM th b)), ((b 3), .inr (4, [.int 0, .ref e0, .int 0]))]) [0, 1] rfl
  have hD9 := hD.sub (ws' := [(h0, .inr (15, zM th b)), ((b 3), .inr (4, [.int 0, .ref e0, .int 0]))]) [0, 1] (by decide) rfl
  have hK9 := hK.sub (tys' := []) [] rfl
  exact W.zret (v := 0) hx hb hr (by decide) (fun t ht hW => ⟨⟨0, (), rfl, rfl, ⟨by rw [ht]; exact hP9, va_K.moved hW.alike hK9, hD9⟩⟩, hS.F ht⟩) hS.2.2 dX10_isDog_18
